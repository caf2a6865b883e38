theorem dj_u4 {D : DD} {v : Int} (h : DJ D) : DJ (upD D 0 4 v) := by
  obtain ⟨j1, j2, j3, j4, j5, j6, j7, j8⟩ := h
  exact ⟨fun j => by simpa [upD] using j1 j, fun i j => by simpa [upD] using j2 i j, fun j => by simpa [upD] using j3 j, BV.up j4 (by omega), by simpa [upD] using j5, fun j => by simpa [upD] using j6 j, fun j => by simpa [upD] using j7 j, fun j => by simpa [upD] using j8 j⟩
theorem aFrom_0 {D : DD} {a b : Int} : ∀ k, k ≠ 4 → aFrom D a b 0 k = D 0 k := fun k hk => by simp [aFrom, upD, hk]
theorem aFrom_4 {D : DD} {a b : Int} : aFrom D a b 0 4 = D 0 4 + 1 := by simp [aFrom, upD]
def fnd (kd k d : Int) : Int := if kd = 1 then (if d ≤ k then 1 else 0) else if kd = 2 then ((Int32.ofInt k * Int32.ofInt d) / Int32.ofInt 10).toInt else if kd = 3 then (if d = k then 2 else 0) else if kd = 5 then (if d ≤ 5 then 1 else 0) else 0
section FND
variable {kd k d r : Int}
theorem fnd_1 (h : kd = 1) (hd : d ≤ k) (hr : r = 1) : r = fnd kd k d := by unfold fnd; rw [if_pos h, if_pos hd]; exact hr
theorem fnd_1n (h : kd = 1) (hd : ¬ d ≤ k) (hr : r = 0) : r = fnd kd k d := by unfold fnd; rw [if_pos h, if_neg hd]; exact hr
theorem fnd_3 (h : kd = 3) (hd : d = k) (hr : r = 2) : r = fnd kd k d := by unfold fnd; rw [if_neg (by omega), if_neg (by omega), if_pos h, if_pos hd]; exact hr
theorem fnd_3n (h : kd = 3) (hd : ¬ d = k) (hr : r = 0) : r = fnd kd k d := by unfold fnd; rw [if_neg (by omega), if_neg (by omega), if_pos h, if_neg hd]; exact hr
theorem fnd_5 (h : kd = 5) (hd : d ≤ 5) (hr : r = 1) : r = fnd kd k d := by unfold fnd; rw [if_neg (by omega), if_neg (by omega), if_neg (by omega), if_pos h, if_pos hd]; exact hr
theorem fnd_5n (h : kd = 5) (hd : ¬ d ≤ 5) (hr : r = 0) : r = fnd kd k d := by unfold fnd; rw [if_neg (by omega), if_neg (by omega), if_neg (by omega), if_pos h, if_neg hd]; exact hr
theorem fnd_d (h : kd < 1 ∨ 5 < kd ∨ kd = 4) (hr : r = 0) : r = fnd kd k d := by unfold fnd; rw [if_neg (by omega), if_neg (by omega), if_neg (by omega), if_neg (by omega)]; exact hr
theorem i32o {x : Int32} {c : Int} (h : x.toInt = c) : x = Int32.ofInt c := by rw [← h]; exact (Int32.ofInt_toInt x).symm
theorem fnd_2 {xk xd t y z : Int32} (h : kd = 2) (hk : xk.toInt = k) (hd : xd.toInt = d) (em : t = xk * xd) (er : z = t / y) (hy : y.toInt = 10) : z.toInt = fnd kd k d := by
  unfold fnd; rw [if_neg (by omega), if_pos h, er, em, i32o hk, i32o hd, i32o hy]
end FND
theorem RW.und {C : Nat → Nat → Nat → Nat → Prop} {D : DD} {I : Nat → Nat → Int32} (h : RW C (cntN D) D I) : RW C (cntN (upD D 0 4 (D 0 4 - 1))) (upD D 0 4 (D 0 4 - 1)) I := h.cg15 fun r j hr h1 h2 => by
  rcases r15 r with rfl | rfl | rfl | rfl | rfl | rfl | rfl | rfl | rfl | rfl | rfl | rfl | rfl | rfl | rfl | hr'
  all_goals (first | omega | (simp [cntN, upD, rel9] at h1 h2 ⊢ <;> first | omega | (refine ⟨?_, ?_⟩ <;> first | assumption | omega | (intros; assumption))))
set_option maxHeartbeats 4000000 in
set_option maxRecDepth 100000 in
theorem f_X8_noHill (g : GG) (l : Launch) (K len : Nat → Nat) (I : Nat → Nat → Int32) (J : Nat → Nat → Int64) (R : Nat → Nat → Option Nat) (hs : Sf K len I R) (a0 : Nat) (ka0 : K a0 = 9) (h : Nat) (hh : R a0 2 = some h) (kh : K h = 2) : Ct g l yX8_noHill cX8_noHill 1 (Option.some Jvm.ClassFile.FieldType.boolean) rmX8_noHill [.ref a0] (K, len, I, J, R) (pI0 (K, len, I, J, R) (fun r => (r.toInt = 1 ∧ ((I h 6).toInt = 0) ∨ r.toInt = 0 ∧ ¬ ((I h 6).toInt = 0)))) := by
  refine Ct_intro (by decide +kernel) (Nat.le_of_ble_eq_true rfl) (fun X hC hL hKK hNm hr hlk hQ => ?_)
  subst hL
  have hC : Cx g X cX8_noHill "HillTap" 1 rmX8_noHill := hC
  show P g X 1 0 [(0, .ref a0)] [] 0 0 (K, len, I, J, R)
  have hF : Fr K [] I I := Fr.refl
  refine r_aload_n hC dX8_noHill_0 0 rfl ?_
  refine r_getr hC 2 (ci := 8) rfl u8_in (by decide) mT_2_80 dX8_noHill_1 ka0 rfl rfl hh ?_
  refine r_geti hC 6 (ci := 1) rfl u1_in (by decide) mT_1_202 dX8_noHill_4 kh rfl rfl (fun x1_ e1 => ?_)
  have r1 := hs.rng kh rfl e1
  have f1 : x1_.toInt = (I h 6).toInt := by rw [e1]
  refine r_if_ne hC (tgt := 14) dX8_noHill_7 (by decide) (fun c2 => ?_) (fun c2 => ?_)
  · refine r_iconst hC (v := (0)) dX8_noHill_14 (by decide) (by decide) (fun x3_ e3 t3 => ?_)
    exact r_iret hC hQ hlk hr (by rw [e3]; rfl) (by decide) (by decide) dX8_noHill_15 ⟨_, rfl, rfl, (by omega)⟩
  · refine r_iconst hC (v := (1)) dX8_noHill_10 (by decide) (by decide) (fun x4_ e4 t4 => ?_)
    refine r_goto hC (tgt := 15) dX8_noHill_11 (by decide) ?_
    exact r_iret hC hQ hlk hr (by rw [e4]; rfl) (by decide) (by decide) dX8_noHill_15 ⟨_, rfl, rfl, (by omega)⟩
set_option maxHeartbeats 4000000 in
set_option maxRecDepth 100000 in
theorem f_X8_isDay (g : GG) (l : Launch) (K len : Nat → Nat) (I : Nat → Nat → Int32) (J : Nat → Nat → Int64) (R : Nat → Nat → Option Nat) (hs : Sf K len I R) (x0 : Int32) : Ct g l yX8_isDay cX8_isDay 1 (Option.some Jvm.ClassFile.FieldType.boolean) rmX8_isDay [.int x0] (K, len, I, J, R) (pI0 (K, len, I, J, R) (fun r => (r.toInt = 1 ∧ (0 ≤ x0.toInt ∧ x0.toInt ≤ 59) ∨ r.toInt = 0 ∧ ¬ (0 ≤ x0.toInt ∧ x0.toInt ≤ 59)))) := by
  refine Ct_intro (by decide +kernel) (Nat.le_of_ble_eq_true rfl) (fun X hC hL hKK hNm hr hlk hQ => ?_)
  subst hL
  have hC : Cx g X cX8_isDay "HillTap" 1 rmX8_isDay := hC
  show P g X 1 0 [(0, .int x0)] [] 0 0 (K, len, I, J, R)
  have hF : Fr K [] I I := Fr.refl
  have b_x0 := ti_rng x0
  refine r_iload_n hC dX8_isDay_0 0 rfl ?_
  refine r_if_lt hC (tgt := 14) dX8_isDay_1 (by decide) (fun c1 => ?_) (fun c1 => ?_)
  · refine r_iconst hC (v := (0)) dX8_isDay_14 (by decide) (by decide) (fun x2_ e2 t2 => ?_)
    exact r_iret hC hQ hlk hr (by rw [e2]; rfl) (by decide) (by decide) dX8_isDay_15 ⟨_, rfl, rfl, (by omega)⟩
  · refine r_iload_n hC dX8_isDay_4 0 rfl ?_
    refine r_bipush hC (v := (60)) dX8_isDay_5 (by decide) (by decide) (fun x3_ e3 t3 => ?_)
    refine r_icmp_ge hC (tgt := 14) dX8_isDay_7 (by decide) (fun c4 => ?_) (fun c4 => ?_)
    · refine r_iconst hC (v := (0)) dX8_isDay_14 (by decide) (by decide) (fun x5_ e5 t5 => ?_)
      exact r_iret hC hQ hlk hr (by rw [e5]; rfl) (by decide) (by decide) dX8_isDay_15 ⟨_, rfl, rfl, (by omega)⟩
    · refine r_iconst hC (v := (1)) dX8_isDay_10 (by decide) (by decide) (fun x6_ e6 t6 => ?_)
      refine r_goto hC (tgt := 15) dX8_isDay_11 (by decide) ?_
      exact r_iret hC hQ hlk hr (by rw [e6]; rfl) (by decide) (by decide) dX8_isDay_15 ⟨_, rfl, rfl, (by omega)⟩
set_option maxHeartbeats 4000000 in
set_option maxRecDepth 100000 in
theorem f_X8_isPeg (g : GG) (l : Launch) (K len : Nat → Nat) (I : Nat → Nat → Int32) (J : Nat → Nat → Int64) (R : Nat → Nat → Option Nat) (hs : Sf K len I R) (a0 : Nat) (ka0 : K a0 = 9) (x1 : Int32) (h : Nat) (hh : R a0 2 = some h) (kh : K h = 2) : Ct g l yX8_isPeg cX8_isPeg 2 (Option.some Jvm.ClassFile.FieldType.boolean) rmX8_isPeg [.ref a0, .int x1] (K, len, I, J, R) (pI0 (K, len, I, J, R) (fun r => (r.toInt = 1 ∧ (0 ≤ x1.toInt ∧ x1.toInt < (I h 1).toInt) ∨ r.toInt = 0 ∧ ¬ (0 ≤ x1.toInt ∧ x1.toInt < (I h 1).toInt)))) := by
  refine Ct_intro (by decide +kernel) (Nat.le_of_ble_eq_true rfl) (fun X hC hL hKK hNm hr hlk hQ => ?_)
  subst hL
  have hC : Cx g X cX8_isPeg "HillTap" 2 rmX8_isPeg := hC
  show P g X 2 0 [(0, .ref a0), (1, .int x1)] [] 0 0 (K, len, I, J, R)
  have hF : Fr K [] I I := Fr.refl
  have b_x1 := ti_rng x1
  refine r_iload_n hC dX8_isPeg_0 1 rfl ?_
  refine r_if_lt hC (tgt := 19) dX8_isPeg_1 (by decide) (fun c1 => ?_) (fun c1 => ?_)
  · refine r_iconst hC (v := (0)) dX8_isPeg_19 (by decide) (by decide) (fun x2_ e2 t2 => ?_)
    exact r_iret hC hQ hlk hr (by rw [e2]; rfl) (by decide) (by decide) dX8_isPeg_20 ⟨_, rfl, rfl, (by omega)⟩
  · refine r_iload_n hC dX8_isPeg_4 1 rfl ?_
    refine r_aload_n hC dX8_isPeg_5 0 rfl ?_
    refine r_getr hC 2 (ci := 8) rfl u8_in (by decide) mT_2_80 dX8_isPeg_6 ka0 rfl rfl hh ?_
    refine r_geti hC 1 (ci := 1) rfl u1_in (by decide) mT_1_187 dX8_isPeg_9 kh rfl rfl (fun x3_ e3 => ?_)
    have r3 := hs.rng kh rfl e3
    have f3 : x3_.toInt = (I h 1).toInt := by rw [e3]
    refine r_icmp_ge hC (tgt := 19) dX8_isPeg_12 (by decide) (fun c4 => ?_) (fun c4 => ?_)
    · refine r_iconst hC (v := (0)) dX8_isPeg_19 (by decide) (by decide) (fun x5_ e5 t5 => ?_)
      exact r_iret hC hQ hlk hr (by rw [e5]; rfl) (by decide) (by decide) dX8_isPeg_20 ⟨_, rfl, rfl, (by omega)⟩
    · refine r_iconst hC (v := (1)) dX8_isPeg_15 (by decide) (by decide) (fun x6_ e6 t6 => ?_)
      refine r_goto hC (tgt := 20) dX8_isPeg_16 (by decide) ?_
      exact r_iret hC hQ hlk hr (by rw [e6]; rfl) (by decide) (by decide) dX8_isPeg_20 ⟨_, rfl, rfl, (by omega)⟩
set_option maxHeartbeats 4000000 in
set_option maxRecDepth 100000 in
theorem f_X8_plan (g : GG) (l : Launch) (K len : Nat → Nat) (I : Nat → Nat → Int32) (J : Nat → Nat → Int64) (R : Nat → Nat → Option Nat) (hs : Sf K len I R) (a0 : Nat) (ka0 : K a0 = 9) (x1 : Int32) (x2 : Int32) (h : Nat) (hh : R a0 2 = some h) (kh : K h = 2) (lk : Nat) (hlk2 : R h 0 = some lk) (klk : K lk = 3) (hu : UU K R) (D : DD) (rwd : RW (CC h lk R) (cntN D) D I) (hd4 : (I lk 4).toInt = D 0 4) (hd1 : (I lk 1).toInt = D 0 1) (hd2 : (I lk 2).toInt = D 0 2) (hd3 : (I lk 3).toInt = D 0 3) (lv : Nat) (hlv : R a0 4 = some lv) (klv : K lv = 41) (llv : len lv = 60) (kn : Nat) (hkn : R a0 6 = some kn) (kkn : K kn = 43) (lkn : len kn = 6) (hJ : (I h 6).toInt ≠ 0 → DJ D) : Ct g l yX8_plan cX8_plan 4 (Option.some Jvm.ClassFile.FieldType.int) rmX8_plan [.ref a0, .int x1, .int x2] (K, len, I, J, R) (pI1 (K, len, I, J, R) (fun r I' => Sf K len I' R ∧ Fr K [(3, 4), (3, 5), (9, 12), (41, 999), (43, 999), (63, 999), (64, 999)] I I' ∧ ((((I h 6).toInt ≠ 0 ∧ 0 ≤ x1.toInt ∧ x1.toInt ≤ 59 ∧ 0 ≤ x2.toInt ∧ x2.toInt ≤ 999 ∧ (I lk 4).toInt < 16) ∧ r.toInt = (I lk 4).toInt + 1 ∧ (I' lk 4).toInt = (I lk 4).toInt + 1 ∧ (I' lk 5).toInt = (I lk 5).toInt + 1) ∨ (¬ ((I h 6).toInt ≠ 0 ∧ 0 ≤ x1.toInt ∧ x1.toInt ≤ 59 ∧ 0 ≤ x2.toInt ∧ x2.toInt ≤ 999 ∧ (I lk 4).toInt < 16) ∧ r.toInt = -1 ∧ (I' lk 4).toInt = (I lk 4).toInt ∧ (I' lk 5).toInt = (I lk 5).toInt)) ∧ ((((I h 6).toInt ≠ 0 ∧ 0 ≤ x1.toInt ∧ x1.toInt ≤ 59 ∧ 0 ≤ x2.toInt ∧ x2.toInt ≤ 999 ∧ (I lk 4).toInt < 16) → RW (CC h lk R) (cntN (aFrom D x1.toInt x2.toInt)) (aFrom D x1.toInt x2.toInt) I') ∧ (¬ ((I h 6).toInt ≠ 0 ∧ 0 ≤ x1.toInt ∧ x1.toInt ≤ 59 ∧ 0 ≤ x2.toInt ∧ x2.toInt ≤ 999 ∧ (I lk 4).toInt < 16) → RW (CC h lk R) (cntN D) D I')) ∧ ((((I h 6).toInt ≠ 0 ∧ 0 ≤ x1.toInt ∧ x1.toInt ≤ 59 ∧ 0 ≤ x2.toInt ∧ x2.toInt ≤ 999 ∧ (I lk 4).toInt < 16) → LvR (aFrom D x1.toInt x2.toInt) lv I') ∧ (¬ ((I h 6).toInt ≠ 0 ∧ 0 ≤ x1.toInt ∧ x1.toInt ≤ 59 ∧ 0 ≤ x2.toInt ∧ x2.toInt ≤ 999 ∧ (I lk 4).toInt < 16) → ∀ j, I' lv j = I lv j)) ∧ ((I' a0 12).toInt ≠ 4))) := by
  refine Ct_intro (by decide +kernel) (Nat.le_of_ble_eq_true rfl) (fun X hC hL hKK hNm hr hlk hQ => ?_)
  subst hL
  have hC : Cx g X cX8_plan "HillTap" 4 rmX8_plan := hC
  show P g X 4 0 [(0, .ref a0), (1, .int x1), (2, .int x2)] [] 0 0 (K, len, I, J, R)
  have hF : Fr K [(3, 4), (3, 5), (9, 12), (41, 999), (43, 999), (63, 999), (64, 999)] I I := Fr.refl
  have b_x1 := ti_rng x1
  have b_x2 := ti_rng x2
  obtain ⟨S6, eS6⟩ : ∃ z : Int32, z = I h 6 := ⟨_, rfl⟩
  have fS6 : S6.toInt = (I h 6).toInt := by rw [eS6]
  have rS6 := hs.rng kh rfl eS6
  obtain ⟨F4, eF4⟩ : ∃ z : Int32, z = I lk 4 := ⟨_, rfl⟩
  have fF4 : F4.toInt = (I lk 4).toInt := by rw [eF4]
  have rF4 := hs.rng klk rfl eF4
  obtain ⟨P5, eP5⟩ : ∃ z : Int32, z = I lk 5 := ⟨_, rfl⟩
  have fP5 : P5.toInt = (I lk 5).toInt := by rw [eP5]
  have rP5 := hs.rng klk rfl eP5
  have hcx := CC_x hs kh klk hu
  refine r_aload_n hC dX8_plan_0 0 rfl ?_
  refine r_callV hC (As := []) (rest := []) (ci := 8) (f_X8_noHill g (xL X) K len I J R hs a0 ka0 h hh kh) mT_3_131 mT_1_1 mT_3_128 mT_3_130 mP_22 okX8_noHill ⟨by decide, by decide⟩ rfl (by show kO (K a0) = _; rw [ka0]; rfl) rfl rfl (Nat.le_of_ble_eq_true rfl) ⟨by decide, by decide⟩ dX8_plan_1 (aI0 (F := fun st M => P g X 4 4 [(0, .ref a0), (1, .int x1), (2, .int x2)] st _ _ M) (M := (K, len, I, J, R)) fun x1_ h1 => ?_)
  have k1_0 := h1
  clear h1
  show P g X 4 4 [(0, .ref a0), (1, .int x1), (2, .int x2)] [.int x1_] _ _ (K, len, I, J, R)
  rcases k1_0 with ⟨hr1, hw1⟩ | ⟨hr1, hw1⟩
  · refine r_if_eq hC (tgt := 13) dX8_plan_4 (by decide) (fun c2 => ?_) (fun c2 => ?_)
    · exfalso; omega
    refine r_aload_n hC dX8_plan_7 0 rfl ?_
    refine r_iconst hC (v := (1)) dX8_plan_8 (by decide) (by decide) (fun x3_ e3 t3 => ?_)
    refine r_callV hC (As := [.int x3_]) (rest := []) (ci := 8) (c_X8_refuse g (xL X) K len I J R hs a0 ka0 x3_) mT_2_133 mT_1_1 mT_2_130 mT_2_132 mP_0 okX8_refuse ⟨by decide, by decide⟩ rfl (by show kO (K a0) = _; rw [ka0]; rfl) rfl rfl (Nat.le_of_ble_eq_true rfl) ⟨by decide, by decide⟩ dX8_plan_9 (aI1 (F := fun st M => P g X 4 12 [(0, .ref a0), (1, .int x1), (2, .int x2)] st _ _ M) (M := (K, len, I, J, R)) fun x4_ I4 h4 => ?_)
    obtain ⟨hs4, hf4, k4_0, k4_1⟩ := h4
    show P g X 4 12 [(0, .ref a0), (1, .int x1), (2, .int x2)] [.int x4_] _ _ (K, len, I4, J, R)
    have hF4 : Fr K [(3, 4), (3, 5), (9, 12), (41, 999), (43, 999), (63, 999), (64, 999)] I I4 := hF.trans hf4 rfl rfl
    have lvk4 : ∀ j, I4 lv j = I lv j := fun j => (hf4.get klv rfl).trans ((fun _ => rfl) j)
    have rw4 := rwd.mv hcx qC_big hf4 rfl
    have hv4 : I4 lk 4 = F4 := (Eq.trans (hf4.get klk rfl) eF4.symm)
    have hv4t : (I4 lk 4).toInt = F4.toInt := congrArg Int32.toInt hv4
    have hv5 : I4 lk 5 = P5 := (Eq.trans (hf4.get klk rfl) eP5.symm)
    have hv5t : (I4 lk 5).toInt = P5.toInt := congrArg Int32.toInt hv5
    exact r_iret hC hQ hlk hr rfl (by decide) (by decide) dX8_plan_12 ⟨_, _, rfl, rfl, ⟨hs4, hF4, (by first | exact Or.inr ⟨by omega, by omega, by omega, by omega⟩ | exact Or.inl ⟨by omega, by have h9 := congrArg Int32.toInt k4_0; omega, by omega, by omega⟩), (by first | exact ⟨fun h9 => by exfalso; omega, fun _ => rw4⟩ | exact ⟨fun _ => rw4.frm (by omega), fun h9 => by exfalso; omega⟩), (by first | exact ⟨fun h9 => by exfalso; omega, fun _ => lvk4⟩ | exact ⟨fun _ => NOlvr, fun h9 => by exfalso; omega⟩), (by omega)⟩⟩
  · refine r_if_eq hC (tgt := 13) dX8_plan_4 (by decide) (fun c5 => ?_) (fun c5 => ?_)
    rotate_left
    · exfalso; omega
    refine r_iload_n hC dX8_plan_13 1 rfl ?_
    refine r_callS hC (As := [.int x1]) (rest := []) (f_X8_isDay g (xL X) K len I J R hs x1) mT_3_134 mT_1_1 mT_3_132 mT_3_133 okX8_isDay ⟨by decide, by decide⟩ rfl rfl (Nat.le_of_ble_eq_true rfl) ⟨by decide, by decide⟩ dX8_plan_14 (aI0 (F := fun st M => P g X 4 17 [(0, .ref a0), (1, .int x1), (2, .int x2)] st _ _ M) (M := (K, len, I, J, R)) fun x6_ h6 => ?_)
    have k6_0 := h6
    clear h6
    show P g X 4 17 [(0, .ref a0), (1, .int x1), (2, .int x2)] [.int x6_] _ _ (K, len, I, J, R)
    rcases k6_0 with ⟨hr6, hw6⟩ | ⟨hr6, hw6⟩
    · refine r_if_eq hC (tgt := 31) dX8_plan_17 (by decide) (fun c7 => ?_) (fun c7 => ?_)
      · exfalso; omega
      refine r_iload_n hC dX8_plan_20 2 rfl ?_
      refine r_if_lt hC (tgt := 31) dX8_plan_21 (by decide) (fun c8 => ?_) (fun c8 => ?_)
      · refine r_aload_n hC dX8_plan_31 0 rfl ?_
        refine r_iconst hC (v := (2)) dX8_plan_32 (by decide) (by decide) (fun x9_ e9 t9 => ?_)
        refine r_callV hC (As := [.int x9_]) (rest := []) (ci := 8) (c_X8_refuse g (xL X) K len I J R hs a0 ka0 x9_) mT_2_133 mT_1_1 mT_2_130 mT_2_132 mP_0 okX8_refuse ⟨by decide, by decide⟩ rfl (by show kO (K a0) = _; rw [ka0]; rfl) rfl rfl (Nat.le_of_ble_eq_true rfl) ⟨by decide, by decide⟩ dX8_plan_33 (aI1 (F := fun st M => P g X 4 36 [(0, .ref a0), (1, .int x1), (2, .int x2)] st _ _ M) (M := (K, len, I, J, R)) fun x10_ I10 h10 => ?_)
        obtain ⟨hs10, hf10, k10_0, k10_1⟩ := h10
        show P g X 4 36 [(0, .ref a0), (1, .int x1), (2, .int x2)] [.int x10_] _ _ (K, len, I10, J, R)
        have hF10 : Fr K [(3, 4), (3, 5), (9, 12), (41, 999), (43, 999), (63, 999), (64, 999)] I I10 := hF.trans hf10 rfl rfl
        have lvk10 : ∀ j, I10 lv j = I lv j := fun j => (hf10.get klv rfl).trans ((fun _ => rfl) j)
        have rw10 := rwd.mv hcx qC_big hf10 rfl
        have hv4 : I10 lk 4 = F4 := (Eq.trans (hf10.get klk rfl) eF4.symm)
        have hv4t : (I10 lk 4).toInt = F4.toInt := congrArg Int32.toInt hv4
        have hv5 : I10 lk 5 = P5 := (Eq.trans (hf10.get klk rfl) eP5.symm)
        have hv5t : (I10 lk 5).toInt = P5.toInt := congrArg Int32.toInt hv5
        exact r_iret hC hQ hlk hr rfl (by decide) (by decide) dX8_plan_36 ⟨_, _, rfl, rfl, ⟨hs10, hF10, (by first | exact Or.inr ⟨by omega, by omega, by omega, by omega⟩ | exact Or.inl ⟨by omega, by have h9 := congrArg Int32.toInt k10_0; omega, by omega, by omega⟩), (by first | exact ⟨fun h9 => by exfalso; omega, fun _ => rw10⟩ | exact ⟨fun _ => rw10.frm (by omega), fun h9 => by exfalso; omega⟩), (by first | exact ⟨fun h9 => by exfalso; omega, fun _ => lvk10⟩ | exact ⟨fun _ => NOlvr, fun h9 => by exfalso; omega⟩), (by omega)⟩⟩
      · refine r_iload_n hC dX8_plan_24 2 rfl ?_
        refine r_sipush hC (v := (999)) dX8_plan_25 (by decide) (by decide) (fun x11_ e11 t11 => ?_)
        refine r_icmp_le hC (tgt := 37) dX8_plan_28 (by decide) (fun c12 => ?_) (fun c12 => ?_)
        · refine r_aload_n hC dX8_plan_37 0 rfl ?_
          refine r_getr hC 2 (ci := 8) rfl u8_in (by decide) mT_2_80 dX8_plan_38 ka0 rfl rfl hh ?_
          refine r_getr hC 0 (ci := 1) rfl u1_in (by decide) mT_1_182 dX8_plan_41 kh rfl rfl hlk2 ?_
          refine r_astore_n hC (lv' := [(3, .ref lk), (0, .ref a0), (1, .int x1), (2, .int x2)]) dX8_plan_44 (by decide) rfl ?_
          refine r_aload_n hC dX8_plan_45 0 rfl ?_
          refine r_geti hC 4 (ci := 2) rfl u2_in (by decide) mT_1_130 dX8_plan_46 klk rfl rfl (fun x13_ e13 => ?_)
          have r13 := hs.rng klk rfl e13
          have f13 : x13_.toInt = (I lk 4).toInt := by rw [e13]
          have w13 : x13_ = F4 := by rw [e13]; exact eF4.symm
          have wt13 : x13_.toInt = F4.toInt := by rw [w13]
          refine r_bipush hC (v := (16)) dX8_plan_49 (by decide) (by decide) (fun x14_ e14 t14 => ?_)
          refine r_icmp_lt hC (tgt := 60) dX8_plan_51 (by decide) (fun c15 => ?_) (fun c15 => ?_)
          · refine r_aload_n hC dX8_plan_60 0 rfl ?_
            refine r_iload_n hC dX8_plan_61 2 rfl ?_
            refine r_iload_n hC dX8_plan_62 3 rfl ?_
            have hpl := hs.plan klk
            refine r_callV hC (As := [.int x1, .int x2]) (rest := []) (ci := 2) (f_X2_addFrom g (xL X) K len I J R hs lk klk x1 x2 h kh hu D (cntN D) rwd (D 0 4).toNat (by omega) (show D 0 4 = _ by omega) (show D 0 4 = _ by omega) x1.toInt rfl x2.toInt rfl (by omega)) mT_3_45 mT_1_6 mT_3_139 mT_3_43 mT_3_44 okX2_addFrom ⟨by decide, by decide⟩ rfl (by show kO (K lk) = _; rw [klk]; rfl) rfl rfl (Nat.le_of_ble_eq_true rfl) ⟨by decide, by decide⟩ dX8_plan_63 (aV1 (F := fun st M => P g X 4 66 [(3, .ref lk), (0, .ref a0), (1, .int x1), (2, .int x2)] st _ _ M) (M := (K, len, I, J, R)) fun I16 h16 => ?_)
            obtain ⟨hs16, hf16, k16_0, k16_1, k16_2, k16_3, k16_4⟩ := h16
            show P g X 4 66 [(3, .ref lk), (0, .ref a0), (1, .int x1), (2, .int x2)] [] _ _ (K, len, I16, J, R)
            have hF16 : Fr K [(3, 4), (3, 5), (9, 12), (41, 999), (43, 999), (63, 999), (64, 999)] I I16 := hF.trans hf16 rfl rfl
            have lvk16 : ∀ j, I16 lv j = I lv j := fun j => (hf16.get klv rfl).trans ((fun _ => rfl) j)
            obtain ⟨F9, eF9⟩ : ∃ z : Int32, z = I16 lk 4 := ⟨_, rfl⟩
            have fF9 : F9.toInt = (I16 lk 4).toInt := by rw [eF9]
            have rF9 := hs16.rng klk rfl eF9
            refine r_aload_n hC dX8_plan_66 0 rfl ?_
            refine r_dup hC dX8_plan_67 rfl ?_
            refine r_geti hC 5 (ci := 2) rfl u2_in (by decide) mT_1_132 dX8_plan_68 klk rfl rfl (fun x17_ e17 => ?_)
            have r17 := hs16.rng klk rfl e17
            have f17 : x17_.toInt = (I16 lk 5).toInt := by rw [e17]
            have w17 : x17_ = P5 := by rw [e17]; exact (Eq.trans (hf16.get klk rfl) eP5.symm)
            have wt17 : x17_.toInt = P5.toInt := by rw [w17]
            refine r_iconst hC (v := (1)) dX8_plan_71 (by decide) (by decide) (fun x18_ e18 t18 => ?_)
            refine r_iadd hC dX8_plan_72 (fun x19_ e19 => ?_)
            try have t19 : x19_.toInt = x17_.toInt + x18_.toInt := by rw [e19]; exact ti_add (by omega) (by omega)
            refine r_puti hC 5 (ci := 2) rfl u2_in tyX2_ok nmX2 (by decide) mT_1_132 rfl rfl rfl dX8_plan_73 klk rfl rfl (fun I20 eI20 => ?_)
            have hs20 : Sf K len I20 R := hs16.put35 eI20 klk (by omega) (by omega) (by omega)
            have hF20 := hF16.put eI20 klk rfl
            have rw20 := k16_3.putO hcx eI20 klk rfl
            have lvk20 : ∀ j, I20 lv j = I lv j := fun j => (up2_kk eI20 klk klv (by decide)).trans (lvk16 j)
            refine r_aload_n hC dX8_plan_76 1 rfl ?_
            have h4x : I20 lk 4 = F9 := (Eq.trans (up2_at (Or.inr (by decide)) eI20) eF9.symm)
            have h4xt : (I20 lk 4).toInt = F9.toInt := congrArg Int32.toInt h4x
            refine r_callV hC (As := []) (rest := []) (ci := 8) (f_X8_planAnew g (xL X) K len I20 J R hs20 a0 ka0 h hh kh lk hlk2 klk hu (aFrom D x1.toInt x2.toInt) (dj_aFrom (hJ (by omega)) ⟨by omega, by omega⟩ ⟨by omega, by omega⟩) (rw20.frm (by omega)) (by rw [hF20.get klk rfl, aFrom_0 1 (by decide)]; exact hd1) (by rw [hF20.get klk rfl, aFrom_0 2 (by decide)]; exact hd2) (by rw [hF20.get klk rfl, aFrom_0 3 (by decide)]; exact hd3) (by rw [aFrom_4]; omega) lv hlv klv llv kn hkn kkn lkn) mT_3_97 mT_1_1 mT_3_94 mT_3_96 mP_18 okX8_planAnew ⟨by decide, by decide⟩ rfl (by show kO (K a0) = _; rw [ka0]; rfl) rfl rfl (Nat.le_of_ble_eq_true rfl) ⟨by decide, by decide⟩ dX8_plan_77 (aV1 (F := fun st M => P g X 4 80 [(3, .ref lk), (0, .ref a0), (1, .int x1), (2, .int x2)] st _ _ M) (M := (K, len, I20, J, R)) fun I21 h21 => ?_)
            obtain ⟨hs21, hf21, k21_0, k21_1⟩ := h21
            show P g X 4 80 [(3, .ref lk), (0, .ref a0), (1, .int x1), (2, .int x2)] [] _ _ (K, len, I21, J, R)
            have hF21 : Fr K [(3, 4), (3, 5), (9, 12), (41, 999), (43, 999), (63, 999), (64, 999)] I I21 := hF20.trans hf21 rfl rfl
            have rw21 := rw20.mv hcx qC_big hf21 rfl
            refine r_aload_n hC dX8_plan_80 1 rfl ?_
            refine r_aload_n hC dX8_plan_81 0 rfl ?_
            refine r_geti hC 4 (ci := 2) rfl u2_in (by decide) mT_1_130 dX8_plan_82 klk rfl rfl (fun x22_ e22 => ?_)
            have r22 := hs21.rng klk rfl e22
            have f22 : x22_.toInt = (I21 lk 4).toInt := by rw [e22]
            have w22 : x22_ = F9 := by rw [e22]; exact (Eq.trans (hf21.get klk rfl) (Eq.trans (up2_at (Or.inr (by decide)) eI20) eF9.symm))
            have wt22 : x22_.toInt = F9.toInt := by rw [w22]
            refine r_callV hC (As := [.int x22_]) (rest := []) (ci := 8) (c_X8_answer g (xL X) K len I21 J R hs21 a0 ka0 x22_) mT_3_115 mT_1_1 mT_3_112 mT_3_114 mP_21 okX8_answer ⟨by decide, by decide⟩ rfl (by show kO (K a0) = _; rw [ka0]; rfl) rfl rfl (Nat.le_of_ble_eq_true rfl) ⟨by decide, by decide⟩ dX8_plan_85 (aI1 (F := fun st M => P g X 4 88 [(3, .ref lk), (0, .ref a0), (1, .int x1), (2, .int x2)] st _ _ M) (M := (K, len, I21, J, R)) fun x23_ I23 h23 => ?_)
            obtain ⟨hs23, hf23, k23_0, k23_1⟩ := h23
            show P g X 4 88 [(3, .ref lk), (0, .ref a0), (1, .int x1), (2, .int x2)] [.int x23_] _ _ (K, len, I23, J, R)
            have hF23 : Fr K [(3, 4), (3, 5), (9, 12), (41, 999), (43, 999), (63, 999), (64, 999)] I I23 := hF21.trans hf23 rfl rfl
            have lvr23 := k21_0.mv hf23 klv (fun _ => rfl)
            have rw23 := rw21.mv hcx qC_big hf23 rfl
            have hv4 : I23 lk 4 = x22_ := (Eq.trans (hf23.get klk rfl) e22.symm)
            have hv4t : (I23 lk 4).toInt = x22_.toInt := congrArg Int32.toInt hv4
            have hv5 : I23 lk 5 = x19_ := (Eq.trans (hf23.get klk rfl) (Eq.trans (hf21.get klk rfl) (by rw [eI20]; exact up2_self _ _ _ _)))
            have hv5t : (I23 lk 5).toInt = x19_.toInt := congrArg Int32.toInt hv5
            exact r_iret hC hQ hlk hr rfl (by decide) (by decide) dX8_plan_88 ⟨_, _, rfl, rfl, ⟨hs23, hF23, (by first | exact Or.inr ⟨by omega, by omega, by omega, by omega⟩ | exact Or.inl ⟨by omega, by have h9 := congrArg Int32.toInt k23_0; omega, by omega, by omega⟩), (by first | exact ⟨fun h9 => by exfalso; omega, fun _ => rw23⟩ | exact ⟨fun _ => rw23.frm (by omega), fun h9 => by exfalso; omega⟩), (by first | exact ⟨fun h9 => by exfalso; omega, fun _ => NOlvk⟩ | exact ⟨fun _ => lvr23, fun h9 => by exfalso; omega⟩), (by omega)⟩⟩
          · refine r_aload_n hC dX8_plan_54 1 rfl ?_
            refine r_iconst hC (v := (3)) dX8_plan_55 (by decide) (by decide) (fun x24_ e24 t24 => ?_)
            refine r_callV hC (As := [.int x24_]) (rest := []) (ci := 8) (c_X8_refuse g (xL X) K len I J R hs a0 ka0 x24_) mT_2_133 mT_1_1 mT_2_130 mT_2_132 mP_0 okX8_refuse ⟨by decide, by decide⟩ rfl (by show kO (K a0) = _; rw [ka0]; rfl) rfl rfl (Nat.le_of_ble_eq_true rfl) ⟨by decide, by decide⟩ dX8_plan_56 (aI1 (F := fun st M => P g X 4 59 [(3, .ref lk), (0, .ref a0), (1, .int x1), (2, .int x2)] st _ _ M) (M := (K, len, I, J, R)) fun x25_ I25 h25 => ?_)
            obtain ⟨hs25, hf25, k25_0, k25_1⟩ := h25
            show P g X 4 59 [(3, .ref lk), (0, .ref a0), (1, .int x1), (2, .int x2)] [.int x25_] _ _ (K, len, I25, J, R)
            have hF25 : Fr K [(3, 4), (3, 5), (9, 12), (41, 999), (43, 999), (63, 999), (64, 999)] I I25 := hF.trans hf25 rfl rfl
            have lvk25 : ∀ j, I25 lv j = I lv j := fun j => (hf25.get klv rfl).trans ((fun _ => rfl) j)
            have rw25 := rwd.mv hcx qC_big hf25 rfl
            have hv4 : I25 lk 4 = x13_ := (Eq.trans (hf25.get klk rfl) e13.symm)
            have hv4t : (I25 lk 4).toInt = x13_.toInt := congrArg Int32.toInt hv4
            have hv5 : I25 lk 5 = P5 := (Eq.trans (hf25.get klk rfl) eP5.symm)
            have hv5t : (I25 lk 5).toInt = P5.toInt := congrArg Int32.toInt hv5
            exact r_iret hC hQ hlk hr rfl (by decide) (by decide) dX8_plan_59 ⟨_, _, rfl, rfl, ⟨hs25, hF25, (by first | exact Or.inr ⟨by omega, by omega, by omega, by omega⟩ | exact Or.inl ⟨by omega, by have h9 := congrArg Int32.toInt k25_0; omega, by omega, by omega⟩), (by first | exact ⟨fun h9 => by exfalso; omega, fun _ => rw25⟩ | exact ⟨fun _ => rw25.frm (by omega), fun h9 => by exfalso; omega⟩), (by first | exact ⟨fun h9 => by exfalso; omega, fun _ => lvk25⟩ | exact ⟨fun _ => NOlvr, fun h9 => by exfalso; omega⟩), (by omega)⟩⟩
        · refine r_aload_n hC dX8_plan_31 0 rfl ?_
          refine r_iconst hC (v := (2)) dX8_plan_32 (by decide) (by decide) (fun x26_ e26 t26 => ?_)
          refine r_callV hC (As := [.int x26_]) (rest := []) (ci := 8) (c_X8_refuse g (xL X) K len I J R hs a0 ka0 x26_) mT_2_133 mT_1_1 mT_2_130 mT_2_132 mP_0 okX8_refuse ⟨by decide, by decide⟩ rfl (by show kO (K a0) = _; rw [ka0]; rfl) rfl rfl (Nat.le_of_ble_eq_true rfl) ⟨by decide, by decide⟩ dX8_plan_33 (aI1 (F := fun st M => P g X 4 36 [(0, .ref a0), (1, .int x1), (2, .int x2)] st _ _ M) (M := (K, len, I, J, R)) fun x27_ I27 h27 => ?_)
          obtain ⟨hs27, hf27, k27_0, k27_1⟩ := h27
          show P g X 4 36 [(0, .ref a0), (1, .int x1), (2, .int x2)] [.int x27_] _ _ (K, len, I27, J, R)
          have hF27 : Fr K [(3, 4), (3, 5), (9, 12), (41, 999), (43, 999), (63, 999), (64, 999)] I I27 := hF.trans hf27 rfl rfl
          have lvk27 : ∀ j, I27 lv j = I lv j := fun j => (hf27.get klv rfl).trans ((fun _ => rfl) j)
          have rw27 := rwd.mv hcx qC_big hf27 rfl
          have hv4 : I27 lk 4 = F4 := (Eq.trans (hf27.get klk rfl) eF4.symm)
          have hv4t : (I27 lk 4).toInt = F4.toInt := congrArg Int32.toInt hv4
          have hv5 : I27 lk 5 = P5 := (Eq.trans (hf27.get klk rfl) eP5.symm)
          have hv5t : (I27 lk 5).toInt = P5.toInt := congrArg Int32.toInt hv5
          exact r_iret hC hQ hlk hr rfl (by decide) (by decide) dX8_plan_36 ⟨_, _, rfl, rfl, ⟨hs27, hF27, (by first | exact Or.inr ⟨by omega, by omega, by omega, by omega⟩ | exact Or.inl ⟨by omega, by have h9 := congrArg Int32.toInt k27_0; omega, by omega, by omega⟩), (by first | exact ⟨fun h9 => by exfalso; omega, fun _ => rw27⟩ | exact ⟨fun _ => rw27.frm (by omega), fun h9 => by exfalso; omega⟩), (by first | exact ⟨fun h9 => by exfalso; omega, fun _ => lvk27⟩ | exact ⟨fun _ => NOlvr, fun h9 => by exfalso; omega⟩), (by omega)⟩⟩
    · refine r_if_eq hC (tgt := 31) dX8_plan_17 (by decide) (fun c28 => ?_) (fun c28 => ?_)
      rotate_left
      · exfalso; omega
      refine r_aload_n hC dX8_plan_31 0 rfl ?_
      refine r_iconst hC (v := (2)) dX8_plan_32 (by decide) (by decide) (fun x29_ e29 t29 => ?_)
      refine r_callV hC (As := [.int x29_]) (rest := []) (ci := 8) (c_X8_refuse g (xL X) K len I J R hs a0 ka0 x29_) mT_2_133 mT_1_1 mT_2_130 mT_2_132 mP_0 okX8_refuse ⟨by decide, by decide⟩ rfl (by show kO (K a0) = _; rw [ka0]; rfl) rfl rfl (Nat.le_of_ble_eq_true rfl) ⟨by decide, by decide⟩ dX8_plan_33 (aI1 (F := fun st M => P g X 4 36 [(0, .ref a0), (1, .int x1), (2, .int x2)] st _ _ M) (M := (K, len, I, J, R)) fun x30_ I30 h30 => ?_)
      obtain ⟨hs30, hf30, k30_0, k30_1⟩ := h30
      show P g X 4 36 [(0, .ref a0), (1, .int x1), (2, .int x2)] [.int x30_] _ _ (K, len, I30, J, R)
      have hF30 : Fr K [(3, 4), (3, 5), (9, 12), (41, 999), (43, 999), (63, 999), (64, 999)] I I30 := hF.trans hf30 rfl rfl
      have lvk30 : ∀ j, I30 lv j = I lv j := fun j => (hf30.get klv rfl).trans ((fun _ => rfl) j)
      have rw30 := rwd.mv hcx qC_big hf30 rfl
      have hv4 : I30 lk 4 = F4 := (Eq.trans (hf30.get klk rfl) eF4.symm)
      have hv4t : (I30 lk 4).toInt = F4.toInt := congrArg Int32.toInt hv4
      have hv5 : I30 lk 5 = P5 := (Eq.trans (hf30.get klk rfl) eP5.symm)
      have hv5t : (I30 lk 5).toInt = P5.toInt := congrArg Int32.toInt hv5
      exact r_iret hC hQ hlk hr rfl (by decide) (by decide) dX8_plan_36 ⟨_, _, rfl, rfl, ⟨hs30, hF30, (by first | exact Or.inr ⟨by omega, by omega, by omega, by omega⟩ | exact Or.inl ⟨by omega, by have h9 := congrArg Int32.toInt k30_0; omega, by omega, by omega⟩), (by first | exact ⟨fun h9 => by exfalso; omega, fun _ => rw30⟩ | exact ⟨fun _ => rw30.frm (by omega), fun h9 => by exfalso; omega⟩), (by first | exact ⟨fun h9 => by exfalso; omega, fun _ => lvk30⟩ | exact ⟨fun _ => NOlvr, fun h9 => by exfalso; omega⟩), (by omega)⟩⟩
set_option maxHeartbeats 4000000 in
set_option maxRecDepth 100000 in
theorem f_X8_undo (g : GG) (l : Launch) (K len : Nat → Nat) (I : Nat → Nat → Int32) (J : Nat → Nat → Int64) (R : Nat → Nat → Option Nat) (hs : Sf K len I R) (a0 : Nat) (ka0 : K a0 = 9) (h : Nat) (hh : R a0 2 = some h) (kh : K h = 2) (lk : Nat) (hlk2 : R h 0 = some lk) (klk : K lk = 3) (hu : UU K R) (D : DD) (rwd : RW (CC h lk R) (cntN D) D I) (hd4 : (I lk 4).toInt = D 0 4) (hd1 : (I lk 1).toInt = D 0 1) (hd2 : (I lk 2).toInt = D 0 2) (hd3 : (I lk 3).toInt = D 0 3) (lv : Nat) (hlv : R a0 4 = some lv) (klv : K lv = 41) (llv : len lv = 60) (kn : Nat) (hkn : R a0 6 = some kn) (kkn : K kn = 43) (lkn : len kn = 6) (hJ : 0 < (I lk 5).toInt → DJ D) : Ct g l yX8_undo cX8_undo 2 (Option.some Jvm.ClassFile.FieldType.boolean) rmX8_undo [.ref a0] (K, len, I, J, R) (pI1 (K, len, I, J, R) (fun r I' => Sf K len I' R ∧ Fr K [(3, 4), (3, 5), (9, 12), (41, 999), (43, 999)] I I' ∧ ((0 < (I lk 5).toInt ∧ r.toInt = 1 ∧ (I' lk 4).toInt = (I lk 4).toInt - 1 ∧ (I' lk 5).toInt = (I lk 5).toInt - 1) ∨ ((I lk 5).toInt ≤ 0 ∧ r.toInt = 0 ∧ (I' lk 4).toInt = (I lk 4).toInt ∧ (I' lk 5).toInt = (I lk 5).toInt)) ∧ (((0 < (I lk 5).toInt) → RW (CC h lk R) (cntN (upD D 0 4 (D 0 4 - 1))) (upD D 0 4 (D 0 4 - 1)) I') ∧ (¬ (0 < (I lk 5).toInt) → RW (CC h lk R) (cntN D) D I')) ∧ (((0 < (I lk 5).toInt) → LvR (upD D 0 4 (D 0 4 - 1)) lv I') ∧ (¬ (0 < (I lk 5).toInt) → ∀ j, I' lv j = I lv j)) ∧ ((I' a0 12).toInt ≠ 4))) := by
  refine Ct_intro (by decide +kernel) (Nat.le_of_ble_eq_true rfl) (fun X hC hL hKK hNm hr hlk hQ => ?_)
  subst hL
  have hC : Cx g X cX8_undo "HillTap" 2 rmX8_undo := hC
  show P g X 2 0 [(0, .ref a0)] [] 0 0 (K, len, I, J, R)
  have hF : Fr K [(3, 4), (3, 5), (9, 12), (41, 999), (43, 999)] I I := Fr.refl
  obtain ⟨F4, eF4⟩ : ∃ z : Int32, z = I lk 4 := ⟨_, rfl⟩
  have fF4 : F4.toInt = (I lk 4).toInt := by rw [eF4]
  have rF4 := hs.rng klk rfl eF4
  obtain ⟨P5, eP5⟩ : ∃ z : Int32, z = I lk 5 := ⟨_, rfl⟩
  have fP5 : P5.toInt = (I lk 5).toInt := by rw [eP5]
  have rP5 := hs.rng klk rfl eP5
  have hcx := CC_x hs kh klk hu
  refine r_aload_n hC dX8_undo_0 0 rfl ?_
  refine r_getr hC 2 (ci := 8) rfl u8_in (by decide) mT_2_80 dX8_undo_1 ka0 rfl rfl hh ?_
  refine r_getr hC 0 (ci := 1) rfl u1_in (by decide) mT_1_182 dX8_undo_4 kh rfl rfl hlk2 ?_
  refine r_astore_n hC (lv' := [(1, .ref lk), (0, .ref a0)]) dX8_undo_7 (by decide) rfl ?_
  refine r_aload_n hC dX8_undo_8 0 rfl ?_
  refine r_geti hC 5 (ci := 2) rfl u2_in (by decide) mT_1_132 dX8_undo_9 klk rfl rfl (fun x1_ e1 => ?_)
  have r1 := hs.rng klk rfl e1
  have f1 : x1_.toInt = (I lk 5).toInt := by rw [e1]
  have w1 : x1_ = P5 := by rw [e1]; exact eP5.symm
  have wt1 : x1_.toInt = P5.toInt := by rw [w1]
  refine r_if_gt hC (tgt := 23) dX8_undo_12 (by decide) (fun c2 => ?_) (fun c2 => ?_)
  · refine r_aload_n hC dX8_undo_23 0 rfl ?_
    refine r_dup hC dX8_undo_24 rfl ?_
    refine r_geti hC 5 (ci := 2) rfl u2_in (by decide) mT_1_132 dX8_undo_25 klk rfl rfl (fun x3_ e3 => ?_)
    have r3 := hs.rng klk rfl e3
    have f3 : x3_.toInt = (I lk 5).toInt := by rw [e3]
    have w3 : x3_ = x1_ := by rw [e3]; exact e1.symm
    have wt3 : x3_.toInt = x1_.toInt := by rw [w3]
    refine r_iconst hC (v := (1)) dX8_undo_28 (by decide) (by decide) (fun x4_ e4 t4 => ?_)
    refine r_isub hC dX8_undo_29 (fun x5_ e5 => ?_)
    try have t5 : x5_.toInt = x3_.toInt - x4_.toInt := by rw [e5]; exact ti_sub (by omega) (by omega)
    have hpl := hs.plan klk
    obtain ⟨F0, eF0⟩ : ∃ z : Int32, z = I lk 4 := ⟨_, rfl⟩
    have fF0 : F0.toInt = (I lk 4).toInt := by rw [eF0]
    have rF0 := hs.rng klk rfl eF0
    refine r_puti hC 5 (ci := 2) rfl u2_in tyX2_ok nmX2 (by decide) mT_1_132 rfl rfl rfl dX8_undo_30 klk rfl rfl (fun I6 eI6 => ?_)
    have hs6 : Sf K len I6 R := hs.put35 eI6 klk (by omega) (by omega) (by omega)
    have hF6 := hF.put eI6 klk rfl
    have rw6 := rwd.putO hcx eI6 klk rfl
    have lvk6 : ∀ j, I6 lv j = I lv j := fun j => (up2_kk eI6 klk klv (by decide)).trans ((fun _ => rfl) j)
    refine r_aload_n hC dX8_undo_33 0 rfl ?_
    refine r_dup hC dX8_undo_34 rfl ?_
    refine r_geti hC 4 (ci := 2) rfl u2_in (by decide) mT_1_130 dX8_undo_35 klk rfl rfl (fun x7_ e7 => ?_)
    have r7 := hs6.rng klk rfl e7
    have f7 : x7_.toInt = (I6 lk 4).toInt := by rw [e7]
    have w7 : x7_ = F0 := by rw [e7]; exact (Eq.trans (up2_at (Or.inr (by decide)) eI6) eF0.symm)
    have wt7 : x7_.toInt = F0.toInt := by rw [w7]
    refine r_iconst hC (v := (1)) dX8_undo_38 (by decide) (by decide) (fun x8_ e8 t8 => ?_)
    refine r_isub hC dX8_undo_39 (fun x9_ e9 => ?_)
    try have t9 : x9_.toInt = x7_.toInt - x8_.toInt := by rw [e9]; exact ti_sub (by omega) (by omega)
    have hv5 : I6 lk 5 = x5_ := (by rw [eI6]; exact up2_self _ _ _ _)
    have hv5t : (I6 lk 5).toInt = x5_.toInt := congrArg Int32.toInt hv5
    refine r_puti hC 4 (ci := 2) rfl u2_in tyX2_ok nmX2 (by decide) mT_1_130 rfl rfl rfl dX8_undo_40 klk rfl rfl (fun I10 eI10 => ?_)
    have hs10 : Sf K len I10 R := hs6.put34 eI10 klk (by omega) (by omega) (by rw [hv5]; omega)
    have hF10 := hF6.put eI10 klk rfl
    have rw10 := rw6.putO hcx eI10 klk rfl
    have lvk10 : ∀ j, I10 lv j = I lv j := fun j => (up2_kk eI10 klk klv (by decide)).trans (lvk6 j)
    refine r_aload_n hC dX8_undo_43 1 rfl ?_
    have h4x : I10 lk 4 = x9_ := (by rw [eI10]; exact up2_self _ _ _ _)
    have h4xt : (I10 lk 4).toInt = x9_.toInt := congrArg Int32.toInt h4x
    refine r_callV hC (As := []) (rest := []) (ci := 8) (f_X8_planAnew g (xL X) K len I10 J R hs10 a0 ka0 h hh kh lk hlk2 klk hu (upD D 0 4 (D 0 4 - 1)) (dj_u4 (hJ (by omega))) (rw10.und) (by rw [hF10.get klk rfl, upD_n D (r := 0) (j := 4) (a := 0) (b := 1) _ (Or.inr (by decide))]; exact hd1) (by rw [hF10.get klk rfl, upD_n D (r := 0) (j := 4) (a := 0) (b := 2) _ (Or.inr (by decide))]; exact hd2) (by rw [hF10.get klk rfl, upD_n D (r := 0) (j := 4) (a := 0) (b := 3) _ (Or.inr (by decide))]; exact hd3) (by rw [upD_s]; omega) lv hlv klv llv kn hkn kkn lkn) mT_3_97 mT_1_1 mT_3_94 mT_3_96 mP_18 okX8_planAnew ⟨by decide, by decide⟩ rfl (by show kO (K a0) = _; rw [ka0]; rfl) rfl rfl (Nat.le_of_ble_eq_true rfl) ⟨by decide, by decide⟩ dX8_undo_44 (aV1 (F := fun st M => P g X 2 47 [(1, .ref lk), (0, .ref a0)] st _ _ M) (M := (K, len, I10, J, R)) fun I11 h11 => ?_)
    obtain ⟨hs11, hf11, k11_0, k11_1⟩ := h11
    show P g X 2 47 [(1, .ref lk), (0, .ref a0)] [] _ _ (K, len, I11, J, R)
    have hF11 : Fr K [(3, 4), (3, 5), (9, 12), (41, 999), (43, 999)] I I11 := hF10.trans hf11 rfl rfl
    have rw11 := rw10.mv hcx qC_big hf11 rfl
    refine r_aload_n hC dX8_undo_47 1 rfl ?_
    refine r_iconst hC (v := (0)) dX8_undo_48 (by decide) (by decide) (fun x12_ e12 t12 => ?_)
    refine r_puti hC 12 (ci := 8) rfl u8_in tyX8_ok nmX8 (by decide) mT_2_90 rfl rfl rfl dX8_undo_49 ka0 rfl rfl (fun I13 eI13 => ?_)
    have hs13 := hs11.put0 eI13 ka0 rfl rfl rfl (by decide)
    have hF13 := hF11.put eI13 ka0 rfl
    have rw13 := rw11.putO hcx eI13 ka0 rfl
    have lvr13 := k11_0.put eI13 ka0 klv (by decide)
    refine r_iconst hC (v := (1)) dX8_undo_52 (by decide) (by decide) (fun x14_ e14 t14 => ?_)
    have hv4 : I13 lk 4 = x9_ := (Eq.trans (up2_kk eI13 ka0 klk (by decide)) (Eq.trans (hf11.get klk rfl) (by rw [eI10]; exact up2_self _ _ _ _)))
    have hv4t : (I13 lk 4).toInt = x9_.toInt := congrArg Int32.toInt hv4
    have hv5 : I13 lk 5 = x5_ := (Eq.trans (up2_kk eI13 ka0 klk (by decide)) (Eq.trans (hf11.get klk rfl) (Eq.trans (up2_at (Or.inr (by decide)) eI10) (by rw [eI6]; exact up2_self _ _ _ _))))
    have hv5t : (I13 lk 5).toInt = x5_.toInt := congrArg Int32.toInt hv5
    have hv12 : I13 a0 12 = x12_ := (by rw [eI13]; exact up2_self _ _ _ _)
    have hv12t : (I13 a0 12).toInt = x12_.toInt := congrArg Int32.toInt hv12
    exact r_iret hC hQ hlk hr (by rw [e14]; rfl) (by decide) (by decide) dX8_undo_53 ⟨_, _, rfl, rfl, ⟨hs13, hF13, (by first | exact Or.inr ⟨by omega, by omega, by omega, by omega⟩ | exact Or.inl ⟨by omega, by omega, by omega, by omega⟩), (by first | exact ⟨fun h9 => by exfalso; omega, fun _ => rw13⟩ | exact ⟨fun _ => rw13.und, fun h9 => by exfalso; omega⟩), (by first | exact ⟨fun h9 => by exfalso; omega, fun _ => NOlvk⟩ | exact ⟨fun _ => lvr13, fun h9 => by exfalso; omega⟩), (by omega)⟩⟩
  · refine r_aload_n hC dX8_undo_15 1 rfl ?_
    refine r_bipush hC (v := (6)) dX8_undo_16 (by decide) (by decide) (fun x15_ e15 t15 => ?_)
    refine r_puti hC 12 (ci := 8) rfl u8_in tyX8_ok nmX8 (by decide) mT_2_90 rfl rfl rfl dX8_undo_18 ka0 rfl rfl (fun I16 eI16 => ?_)
    have hs16 := hs.put0 eI16 ka0 rfl rfl rfl (by decide)
    have hF16 := hF.put eI16 ka0 rfl
    have rw16 := rwd.putO hcx eI16 ka0 rfl
    have lvk16 : ∀ j, I16 lv j = I lv j := fun j => (up2_kk eI16 ka0 klv (by decide)).trans ((fun _ => rfl) j)
    refine r_iconst hC (v := (0)) dX8_undo_21 (by decide) (by decide) (fun x17_ e17 t17 => ?_)
    have hv4 : I16 lk 4 = F4 := (Eq.trans (up2_kk eI16 ka0 klk (by decide)) eF4.symm)
    have hv4t : (I16 lk 4).toInt = F4.toInt := congrArg Int32.toInt hv4
    have hv5 : I16 lk 5 = x1_ := (Eq.trans (up2_kk eI16 ka0 klk (by decide)) e1.symm)
    have hv5t : (I16 lk 5).toInt = x1_.toInt := congrArg Int32.toInt hv5
    have hv12 : I16 a0 12 = x15_ := (by rw [eI16]; exact up2_self _ _ _ _)
    have hv12t : (I16 a0 12).toInt = x15_.toInt := congrArg Int32.toInt hv12
    exact r_iret hC hQ hlk hr (by rw [e17]; rfl) (by decide) (by decide) dX8_undo_22 ⟨_, _, rfl, rfl, ⟨hs16, hF16, (by first | exact Or.inr ⟨by omega, by omega, by omega, by omega⟩ | exact Or.inl ⟨by omega, by omega, by omega, by omega⟩), (by first | exact ⟨fun h9 => by exfalso; omega, fun _ => rw16⟩ | exact ⟨fun _ => rw16.und, fun h9 => by exfalso; omega⟩), (by first | exact ⟨fun h9 => by exfalso; omega, fun _ => lvk16⟩ | exact ⟨fun _ => NOlvr, fun h9 => by exfalso; omega⟩), (by omega)⟩⟩
set_option maxHeartbeats 4000000 in
set_option maxRecDepth 100000 in
theorem f_X3_add (g : GG) (l : Launch) (K len : Nat → Nat) (I : Nat → Nat → Int32) (J : Nat → Nat → Int64) (R : Nat → Nat → Option Nat) (hs : Sf K len I R) (a0 : Nat) (ka0 : K a0 = 4) (x1 : Int32) (x2 : Int32) (x3 : Int32) (x4 : Int32) (p0 : 0 ≤ x1.toInt) (p1 : x1.toInt ≤ 4) (p2 : 0 ≤ x2.toInt) (p3 : x2.toInt ≤ 59) : Ct g l yX3_add cX3_add 5 (Option.none : Option Jvm.ClassFile.FieldType) rmX3_add [.ref a0, .int x1, .int x2, .int x3, .int x4] (K, len, I, J, R) (pV1 (K, len, I, J, R) (fun I' => Sf K len I' R ∧ Fr K [(4, 0), (46, 999), (47, 999), (65, 999), (66, 999)] I I' ∧ ((I a0 0).toInt < 24 → (I' a0 0).toInt = (I a0 0).toInt + 1))) := by
  refine Ct_intro (by decide +kernel) (Nat.le_of_ble_eq_true rfl) (fun X hC hL hKK hNm hr hlk hQ => ?_)
  subst hL
  have hC : Cx g X cX3_add "HillTap$Readings" 5 rmX3_add := hC
  show P g X 5 0 [(0, .ref a0), (1, .int x1), (2, .int x2), (3, .int x3), (4, .int x4)] [] 0 0 (K, len, I, J, R)
  have hF : Fr K [(4, 0), (46, 999), (47, 999), (65, 999), (66, 999)] I I := Fr.refl
  have b_x1 := ti_rng x1
  have b_x2 := ti_rng x2
  have b_x3 := ti_rng x3
  have b_x4 := ti_rng x4
  obtain ⟨C0, eC0⟩ : ∃ z : Int32, z = I a0 0 := ⟨_, rfl⟩
  have fC0 : C0.toInt = (I a0 0).toInt := by rw [eC0]
  have rC0 := hs.rng ka0 rfl eC0
  refine r_aload_n hC dX3_add_0 0 rfl ?_
  refine r_geti hC 0 (ci := 3) rfl u3_in (by decide) mT_2_60 dX3_add_1 ka0 rfl rfl (fun x1_ e1 => ?_)
  have r1 := hs.rng ka0 rfl e1
  have f1 : x1_.toInt = (I a0 0).toInt := by rw [e1]
  have w1 : x1_ = C0 := by rw [e1]; exact eC0.symm
  have wt1 : x1_.toInt = C0.toInt := by rw [w1]
  refine r_bipush hC (v := (24)) dX3_add_4 (by decide) (by decide) (fun x2_ e2 t2 => ?_)
  refine r_icmp_ge hC (tgt := 60) dX3_add_6 (by decide) (fun c3 => ?_) (fun c3 => ?_)
  · have hv0 : I a0 0 = x1_ := e1.symm
    have hv0t : (I a0 0).toInt = x1_.toInt := congrArg Int32.toInt hv0
    exact r_vret hC hQ hlk hr (by decide) (by decide) dX3_add_60 ⟨_, rfl, rfl, ⟨hs, hF, (by omega)⟩⟩
  · refine r_aload_n hC dX3_add_9 0 rfl ?_
    obtain ⟨a4_, hb4, hk4, hn4⟩ := hs.row ka0 1 46 24 (by decide) (by decide)
    refine r_getr hC 1 (ci := 3) rfl u3_in (by decide) mT_2_62 dX3_add_10 ka0 rfl rfl hb4 ?_
    refine r_aload_n hC dX3_add_13 0 rfl ?_
    refine r_geti hC 0 (ci := 3) rfl u3_in (by decide) mT_2_60 dX3_add_14 ka0 rfl rfl (fun x5_ e5 => ?_)
    have r5 := hs.rng ka0 rfl e5
    have f5 : x5_.toInt = (I a0 0).toInt := by rw [e5]
    have w5 : x5_ = x1_ := by rw [e5]; exact e1.symm
    have wt5 : x5_.toInt = x1_.toInt := by rw [w5]
    refine r_iload_n hC dX3_add_17 1 rfl ?_
    refine x_iastore hC hk4 hn4 (by decide) rfl rfl dX3_add_18 (by omega) (by omega) (fun I6 eI6 => ?_)
    have hs6 := hs.putA eI6 hk4 rfl (by omega) (by omega) (rng_arr (by decide)) (xF_arr (by decide)) (by decide)
    have hF6 := hF.put eI6 hk4 (inS_arr rfl _)
    refine r_aload_n hC dX3_add_19 0 rfl ?_
    obtain ⟨a7_, hb7, hk7, hn7⟩ := hs6.row ka0 2 47 24 (by decide) (by decide)
    refine r_getr hC 2 (ci := 3) rfl u3_in (by decide) mT_2_63 dX3_add_20 ka0 rfl rfl hb7 ?_
    refine r_aload_n hC dX3_add_23 0 rfl ?_
    refine r_geti hC 0 (ci := 3) rfl u3_in (by decide) mT_2_60 dX3_add_24 ka0 rfl rfl (fun x8_ e8 => ?_)
    have r8 := hs6.rng ka0 rfl e8
    have f8 : x8_.toInt = (I6 a0 0).toInt := by rw [e8]
    have w8 : x8_ = x5_ := by rw [e8]; exact (Eq.trans (up2_kk eI6 hk4 ka0 (by decide)) e5.symm)
    have wt8 : x8_.toInt = x5_.toInt := by rw [w8]
    refine r_iload_n hC dX3_add_27 2 rfl ?_
    refine x_iastore hC hk7 hn7 (by decide) rfl rfl dX3_add_28 (by omega) (by omega) (fun I9 eI9 => ?_)
    have hs9 := hs6.putA eI9 hk7 rfl (by omega) (by omega) (rng_arr (by decide)) (xF_arr (by decide)) (by decide)
    have hF9 := hF6.put eI9 hk7 (inS_arr rfl _)
    refine r_aload_n hC dX3_add_29 0 rfl ?_
    obtain ⟨a10_, hb10, hk10, hn10⟩ := hs9.row ka0 3 65 24 (by decide) (by decide)
    refine r_getr hC 3 (ci := 3) rfl u3_in (by decide) mT_2_64 dX3_add_30 ka0 rfl rfl hb10 ?_
    refine r_aload_n hC dX3_add_33 0 rfl ?_
    refine r_geti hC 0 (ci := 3) rfl u3_in (by decide) mT_2_60 dX3_add_34 ka0 rfl rfl (fun x11_ e11 => ?_)
    have r11 := hs9.rng ka0 rfl e11
    have f11 : x11_.toInt = (I9 a0 0).toInt := by rw [e11]
    have w11 : x11_ = x8_ := by rw [e11]; exact (Eq.trans (up2_kk eI9 hk7 ka0 (by decide)) e8.symm)
    have wt11 : x11_.toInt = x8_.toInt := by rw [w11]
    refine r_iload_n hC dX3_add_37 3 rfl ?_
    refine x_iastore hC hk10 hn10 (by decide) rfl rfl dX3_add_38 (by omega) (by omega) (fun I12 eI12 => ?_)
    have hs12 := hs9.put0 eI12 hk10 (rng_arr (by decide) _) rfl (xF_arr (by decide) _) (by decide)
    have hF12 := hF9.put eI12 hk10 (inS_arr rfl _)
    refine r_aload_n hC dX3_add_39 0 rfl ?_
    obtain ⟨a13_, hb13, hk13, hn13⟩ := hs12.row ka0 4 66 24 (by decide) (by decide)
    refine r_getr hC 4 (ci := 3) rfl u3_in (by decide) mT_2_65 dX3_add_40 ka0 rfl rfl hb13 ?_
    refine r_aload_n hC dX3_add_43 0 rfl ?_
    refine r_geti hC 0 (ci := 3) rfl u3_in (by decide) mT_2_60 dX3_add_44 ka0 rfl rfl (fun x14_ e14 => ?_)
    have r14 := hs12.rng ka0 rfl e14
    have f14 : x14_.toInt = (I12 a0 0).toInt := by rw [e14]
    have w14 : x14_ = x11_ := by rw [e14]; exact (Eq.trans (up2_kk eI12 hk10 ka0 (by decide)) e11.symm)
    have wt14 : x14_.toInt = x11_.toInt := by rw [w14]
    refine r_iload hC dX3_add_47 4 rfl ?_
    refine x_iastore hC hk13 hn13 (by decide) rfl rfl dX3_add_49 (by omega) (by omega) (fun I15 eI15 => ?_)
    have hs15 := hs12.put0 eI15 hk13 (rng_arr (by decide) _) rfl (xF_arr (by decide) _) (by decide)
    have hF15 := hF12.put eI15 hk13 (inS_arr rfl _)
    refine r_aload_n hC dX3_add_50 0 rfl ?_
    refine r_dup hC dX3_add_51 rfl ?_
    refine r_geti hC 0 (ci := 3) rfl u3_in (by decide) mT_2_60 dX3_add_52 ka0 rfl rfl (fun x16_ e16 => ?_)
    have r16 := hs15.rng ka0 rfl e16
    have f16 : x16_.toInt = (I15 a0 0).toInt := by rw [e16]
    have w16 : x16_ = x14_ := by rw [e16]; exact (Eq.trans (up2_kk eI15 hk13 ka0 (by decide)) e14.symm)
    have wt16 : x16_.toInt = x14_.toInt := by rw [w16]
    refine r_iconst hC (v := (1)) dX3_add_55 (by decide) (by decide) (fun x17_ e17 t17 => ?_)
    refine r_iadd hC dX3_add_56 (fun x18_ e18 => ?_)
    try have t18 : x18_.toInt = x16_.toInt + x17_.toInt := by rw [e18]; exact ti_add (by omega) (by omega)
    refine r_puti hC 0 (ci := 3) rfl u3_in tyX3_ok nmX3 (by decide) mT_2_60 rfl rfl rfl dX3_add_57 ka0 rfl rfl (fun I19 eI19 => ?_)
    have hs19 := hs15.put1 eI19 ka0 rfl (by omega) (by omega) rfl rfl (by decide)
    have hF19 := hF15.put eI19 ka0 rfl
    have hv0 : I19 a0 0 = x18_ := (by rw [eI19]; exact up2_self _ _ _ _)
    have hv0t : (I19 a0 0).toInt = x18_.toInt := congrArg Int32.toInt hv0
    exact r_vret hC hQ hlk hr (by decide) (by decide) dX3_add_60 ⟨_, rfl, rfl, ⟨hs19, hF19, (by omega)⟩⟩
set_option maxHeartbeats 4000000 in
set_option maxRecDepth 100000 in
theorem f_X8_read (g : GG) (l : Launch) (K len : Nat → Nat) (I : Nat → Nat → Int32) (J : Nat → Nat → Int64) (R : Nat → Nat → Option Nat) (hs : Sf K len I R) (a0 : Nat) (ka0 : K a0 = 9) (x1 : Int32) (x2 : Int32) (x3 : Int32) (x4 : Int32) (h : Nat) (hh : R a0 2 = some h) (kh : K h = 2) (rd : Nat) (hrd : R a0 9 = some rd) (krd : K rd = 4) : Ct g l yX8_read cX8_read 5 (Option.some Jvm.ClassFile.FieldType.int) rmX8_read [.ref a0, .int x1, .int x2, .int x3, .int x4] (K, len, I, J, R) (pI1 (K, len, I, J, R) (fun r I' => Sf K len I' R ∧ Fr K [(4, 0), (9, 12), (46, 999), (47, 999), (65, 999), (66, 999)] I I' ∧ (((0 ≤ x1.toInt ∧ x1.toInt < (I h 1).toInt ∧ 0 ≤ x2.toInt ∧ x2.toInt ≤ 59 ∧ 0 ≤ x3.toInt ∧ x3.toInt ≤ 99999 ∧ 0 ≤ x4.toInt ∧ x4.toInt ≤ 999 ∧ (I rd 0).toInt < 24) ∧ r.toInt = (I rd 0).toInt + 1 ∧ (I' rd 0).toInt = (I rd 0).toInt + 1) ∨ (¬ (0 ≤ x1.toInt ∧ x1.toInt < (I h 1).toInt ∧ 0 ≤ x2.toInt ∧ x2.toInt ≤ 59 ∧ 0 ≤ x3.toInt ∧ x3.toInt ≤ 99999 ∧ 0 ≤ x4.toInt ∧ x4.toInt ≤ 999 ∧ (I rd 0).toInt < 24) ∧ r.toInt = -1 ∧ (I' rd 0).toInt = (I rd 0).toInt)) ∧ ((I' a0 12).toInt ≠ 4))) := by
  refine Ct_intro (by decide +kernel) (Nat.le_of_ble_eq_true rfl) (fun X hC hL hKK hNm hr hlk hQ => ?_)
  subst hL
  have hC : Cx g X cX8_read "HillTap" 5 rmX8_read := hC
  show P g X 5 0 [(0, .ref a0), (1, .int x1), (2, .int x2), (3, .int x3), (4, .int x4)] [] 0 0 (K, len, I, J, R)
  have hF : Fr K [(4, 0), (9, 12), (46, 999), (47, 999), (65, 999), (66, 999)] I I := Fr.refl
  have b_x1 := ti_rng x1
  have b_x2 := ti_rng x2
  have b_x3 := ti_rng x3
  have b_x4 := ti_rng x4
  obtain ⟨P1, eP1⟩ : ∃ z : Int32, z = I h 1 := ⟨_, rfl⟩
  have fP1 : P1.toInt = (I h 1).toInt := by rw [eP1]
  have rP1 := hs.rng kh rfl eP1
  obtain ⟨C0, eC0⟩ : ∃ z : Int32, z = I rd 0 := ⟨_, rfl⟩
  have fC0 : C0.toInt = (I rd 0).toInt := by rw [eC0]
  have rC0 := hs.rng krd rfl eC0
  refine r_aload_n hC dX8_read_0 0 rfl ?_
  refine r_iload_n hC dX8_read_1 1 rfl ?_
  refine r_callV hC (As := [.int x1]) (rest := []) (ci := 8) (f_X8_isPeg g (xL X) K len I J R hs a0 ka0 x1 h hh kh) mT_3_159 mT_1_1 mT_3_156 mT_3_158 mP_25 okX8_isPeg ⟨by decide, by decide⟩ rfl (by show kO (K a0) = _; rw [ka0]; rfl) rfl rfl (Nat.le_of_ble_eq_true rfl) ⟨by decide, by decide⟩ dX8_read_2 (aI0 (F := fun st M => P g X 5 5 [(0, .ref a0), (1, .int x1), (2, .int x2), (3, .int x3), (4, .int x4)] st _ _ M) (M := (K, len, I, J, R)) fun x1_ h1 => ?_)
  have k1_0 := h1
  clear h1
  show P g X 5 5 [(0, .ref a0), (1, .int x1), (2, .int x2), (3, .int x3), (4, .int x4)] [.int x1_] _ _ (K, len, I, J, R)
  rcases k1_0 with ⟨hr1, hw1⟩ | ⟨hr1, hw1⟩
  · refine r_if_eq hC (tgt := 15) dX8_read_5 (by decide) (fun c2 => ?_) (fun c2 => ?_)
    · exfalso; omega
    refine r_iload_n hC dX8_read_8 2 rfl ?_
    refine r_callS hC (As := [.int x2]) (rest := []) (f_X8_isDay g (xL X) K len I J R hs x2) mT_3_134 mT_1_1 mT_3_132 mT_3_133 okX8_isDay ⟨by decide, by decide⟩ rfl rfl (Nat.le_of_ble_eq_true rfl) ⟨by decide, by decide⟩ dX8_read_9 (aI0 (F := fun st M => P g X 5 12 [(0, .ref a0), (1, .int x1), (2, .int x2), (3, .int x3), (4, .int x4)] st _ _ M) (M := (K, len, I, J, R)) fun x3_ h3 => ?_)
    have k3_0 := h3
    clear h3
    show P g X 5 12 [(0, .ref a0), (1, .int x1), (2, .int x2), (3, .int x3), (4, .int x4)] [.int x3_] _ _ (K, len, I, J, R)
    rcases k3_0 with ⟨hr3, hw3⟩ | ⟨hr3, hw3⟩
    · refine r_if_ne hC (tgt := 21) dX8_read_12 (by decide) (fun c4 => ?_) (fun c4 => ?_)
      rotate_left
      · exfalso; omega
      refine r_iload_n hC dX8_read_21 3 rfl ?_
      refine r_if_lt hC (tgt := 44) dX8_read_22 (by decide) (fun c5 => ?_) (fun c5 => ?_)
      · refine r_aload_n hC dX8_read_44 0 rfl ?_
        refine r_iconst hC (v := (2)) dX8_read_45 (by decide) (by decide) (fun x6_ e6 t6 => ?_)
        refine r_callV hC (As := [.int x6_]) (rest := []) (ci := 8) (c_X8_refuse g (xL X) K len I J R hs a0 ka0 x6_) mT_2_133 mT_1_1 mT_2_130 mT_2_132 mP_0 okX8_refuse ⟨by decide, by decide⟩ rfl (by show kO (K a0) = _; rw [ka0]; rfl) rfl rfl (Nat.le_of_ble_eq_true rfl) ⟨by decide, by decide⟩ dX8_read_46 (aI1 (F := fun st M => P g X 5 49 [(0, .ref a0), (1, .int x1), (2, .int x2), (3, .int x3), (4, .int x4)] st _ _ M) (M := (K, len, I, J, R)) fun x7_ I7 h7 => ?_)
        obtain ⟨hs7, hf7, k7_0, k7_1⟩ := h7
        show P g X 5 49 [(0, .ref a0), (1, .int x1), (2, .int x2), (3, .int x3), (4, .int x4)] [.int x7_] _ _ (K, len, I7, J, R)
        have hF7 : Fr K [(4, 0), (9, 12), (46, 999), (47, 999), (65, 999), (66, 999)] I I7 := hF.trans hf7 rfl rfl
        have hv0 : I7 rd 0 = C0 := (Eq.trans (hf7.get krd rfl) eC0.symm)
        have hv0t : (I7 rd 0).toInt = C0.toInt := congrArg Int32.toInt hv0
        exact r_iret hC hQ hlk hr rfl (by decide) (by decide) dX8_read_49 ⟨_, _, rfl, rfl, ⟨hs7, hF7, (by first | exact Or.inr ⟨by omega, by omega, by omega⟩ | exact Or.inl ⟨by omega, by have h9 := congrArg Int32.toInt k7_0; omega, by omega⟩), (by omega)⟩⟩
      · refine r_iload_n hC dX8_read_25 3 rfl ?_
        refine r_ldc hC (n := 99999) (v := 99999) mT_3_210 dX8_read_26 (by decide) (fun x8_ e8 t8 => ?_)
        refine r_icmp_gt hC (tgt := 44) dX8_read_28 (by decide) (fun c9 => ?_) (fun c9 => ?_)
        · refine r_aload_n hC dX8_read_44 0 rfl ?_
          refine r_iconst hC (v := (2)) dX8_read_45 (by decide) (by decide) (fun x10_ e10 t10 => ?_)
          refine r_callV hC (As := [.int x10_]) (rest := []) (ci := 8) (c_X8_refuse g (xL X) K len I J R hs a0 ka0 x10_) mT_2_133 mT_1_1 mT_2_130 mT_2_132 mP_0 okX8_refuse ⟨by decide, by decide⟩ rfl (by show kO (K a0) = _; rw [ka0]; rfl) rfl rfl (Nat.le_of_ble_eq_true rfl) ⟨by decide, by decide⟩ dX8_read_46 (aI1 (F := fun st M => P g X 5 49 [(0, .ref a0), (1, .int x1), (2, .int x2), (3, .int x3), (4, .int x4)] st _ _ M) (M := (K, len, I, J, R)) fun x11_ I11 h11 => ?_)
          obtain ⟨hs11, hf11, k11_0, k11_1⟩ := h11
          show P g X 5 49 [(0, .ref a0), (1, .int x1), (2, .int x2), (3, .int x3), (4, .int x4)] [.int x11_] _ _ (K, len, I11, J, R)
          have hF11 : Fr K [(4, 0), (9, 12), (46, 999), (47, 999), (65, 999), (66, 999)] I I11 := hF.trans hf11 rfl rfl
          have hv0 : I11 rd 0 = C0 := (Eq.trans (hf11.get krd rfl) eC0.symm)
          have hv0t : (I11 rd 0).toInt = C0.toInt := congrArg Int32.toInt hv0
          exact r_iret hC hQ hlk hr rfl (by decide) (by decide) dX8_read_49 ⟨_, _, rfl, rfl, ⟨hs11, hF11, (by first | exact Or.inr ⟨by omega, by omega, by omega⟩ | exact Or.inl ⟨by omega, by have h9 := congrArg Int32.toInt k11_0; omega, by omega⟩), (by omega)⟩⟩
        · refine r_iload hC dX8_read_31 4 rfl ?_
          refine r_if_lt hC (tgt := 44) dX8_read_33 (by decide) (fun c12 => ?_) (fun c12 => ?_)
          · refine r_aload_n hC dX8_read_44 0 rfl ?_
            refine r_iconst hC (v := (2)) dX8_read_45 (by decide) (by decide) (fun x13_ e13 t13 => ?_)
            refine r_callV hC (As := [.int x13_]) (rest := []) (ci := 8) (c_X8_refuse g (xL X) K len I J R hs a0 ka0 x13_) mT_2_133 mT_1_1 mT_2_130 mT_2_132 mP_0 okX8_refuse ⟨by decide, by decide⟩ rfl (by show kO (K a0) = _; rw [ka0]; rfl) rfl rfl (Nat.le_of_ble_eq_true rfl) ⟨by decide, by decide⟩ dX8_read_46 (aI1 (F := fun st M => P g X 5 49 [(0, .ref a0), (1, .int x1), (2, .int x2), (3, .int x3), (4, .int x4)] st _ _ M) (M := (K, len, I, J, R)) fun x14_ I14 h14 => ?_)
            obtain ⟨hs14, hf14, k14_0, k14_1⟩ := h14
            show P g X 5 49 [(0, .ref a0), (1, .int x1), (2, .int x2), (3, .int x3), (4, .int x4)] [.int x14_] _ _ (K, len, I14, J, R)
            have hF14 : Fr K [(4, 0), (9, 12), (46, 999), (47, 999), (65, 999), (66, 999)] I I14 := hF.trans hf14 rfl rfl
            have hv0 : I14 rd 0 = C0 := (Eq.trans (hf14.get krd rfl) eC0.symm)
            have hv0t : (I14 rd 0).toInt = C0.toInt := congrArg Int32.toInt hv0
            exact r_iret hC hQ hlk hr rfl (by decide) (by decide) dX8_read_49 ⟨_, _, rfl, rfl, ⟨hs14, hF14, (by first | exact Or.inr ⟨by omega, by omega, by omega⟩ | exact Or.inl ⟨by omega, by have h9 := congrArg Int32.toInt k14_0; omega, by omega⟩), (by omega)⟩⟩
          · refine r_iload hC dX8_read_36 4 rfl ?_
            refine r_sipush hC (v := (999)) dX8_read_38 (by decide) (by decide) (fun x15_ e15 t15 => ?_)
            refine r_icmp_le hC (tgt := 50) dX8_read_41 (by decide) (fun c16 => ?_) (fun c16 => ?_)
            · refine r_aload_n hC dX8_read_50 0 rfl ?_
              refine r_getr hC 9 (ci := 8) rfl u8_in (by decide) mT_2_87 dX8_read_51 ka0 rfl rfl hrd ?_
              refine r_geti hC 0 (ci := 3) rfl u3_in (by decide) mT_2_61 dX8_read_54 krd rfl rfl (fun x17_ e17 => ?_)
              have r17 := hs.rng krd rfl e17
              have f17 : x17_.toInt = (I rd 0).toInt := by rw [e17]
              have w17 : x17_ = C0 := by rw [e17]; exact eC0.symm
              have wt17 : x17_.toInt = C0.toInt := by rw [w17]
              refine r_bipush hC (v := (24)) dX8_read_57 (by decide) (by decide) (fun x18_ e18 t18 => ?_)
              refine r_icmp_lt hC (tgt := 68) dX8_read_59 (by decide) (fun c19 => ?_) (fun c19 => ?_)
              · refine r_aload_n hC dX8_read_68 0 rfl ?_
                refine r_getr hC 9 (ci := 8) rfl u8_in (by decide) mT_2_87 dX8_read_69 ka0 rfl rfl hrd ?_
                refine r_iload_n hC dX8_read_72 1 rfl ?_
                refine r_iload_n hC dX8_read_73 2 rfl ?_
                refine r_iload_n hC dX8_read_74 3 rfl ?_
                refine r_iload hC dX8_read_75 4 rfl ?_
                refine r_callV hC (As := [.int x1, .int x2, .int x3, .int x4]) (rest := []) (ci := 3) (f_X3_add g (xL X) K len I J R hs rd krd x1 x2 x3 x4 (by omega) (by omega) (by omega) (by omega)) mT_3_214 mT_1_9 mT_3_211 mT_3_212 mT_3_213 okX3_add ⟨by decide, by decide⟩ rfl (by show kO (K rd) = _; rw [krd]; rfl) rfl rfl (Nat.le_of_ble_eq_true rfl) ⟨by decide, by decide⟩ dX8_read_77 (aV1 (F := fun st M => P g X 5 80 [(0, .ref a0), (1, .int x1), (2, .int x2), (3, .int x3), (4, .int x4)] st _ _ M) (M := (K, len, I, J, R)) fun I20 h20 => ?_)
                obtain ⟨hs20, hf20, k20_0⟩ := h20
                show P g X 5 80 [(0, .ref a0), (1, .int x1), (2, .int x2), (3, .int x3), (4, .int x4)] [] _ _ (K, len, I20, J, R)
                have hF20 : Fr K [(4, 0), (9, 12), (46, 999), (47, 999), (65, 999), (66, 999)] I I20 := hF.trans hf20 rfl rfl
                obtain ⟨C9, eC9⟩ : ∃ z : Int32, z = I20 rd 0 := ⟨_, rfl⟩
                have fC9 : C9.toInt = (I20 rd 0).toInt := by rw [eC9]
                have rC9 := hs20.rng krd rfl eC9
                refine r_aload_n hC dX8_read_80 0 rfl ?_
                refine r_aload_n hC dX8_read_81 0 rfl ?_
                refine r_getr hC 9 (ci := 8) rfl u8_in (by decide) mT_2_87 dX8_read_82 ka0 rfl rfl hrd ?_
                refine r_geti hC 0 (ci := 3) rfl u3_in (by decide) mT_2_61 dX8_read_85 krd rfl rfl (fun x21_ e21 => ?_)
                have r21 := hs20.rng krd rfl e21
                have f21 : x21_.toInt = (I20 rd 0).toInt := by rw [e21]
                have w21 : x21_ = C9 := by rw [e21]; exact eC9.symm
                have wt21 : x21_.toInt = C9.toInt := by rw [w21]
                refine r_callV hC (As := [.int x21_]) (rest := []) (ci := 8) (c_X8_answer g (xL X) K len I20 J R hs20 a0 ka0 x21_) mT_3_115 mT_1_1 mT_3_112 mT_3_114 mP_21 okX8_answer ⟨by decide, by decide⟩ rfl (by show kO (K a0) = _; rw [ka0]; rfl) rfl rfl (Nat.le_of_ble_eq_true rfl) ⟨by decide, by decide⟩ dX8_read_88 (aI1 (F := fun st M => P g X 5 91 [(0, .ref a0), (1, .int x1), (2, .int x2), (3, .int x3), (4, .int x4)] st _ _ M) (M := (K, len, I20, J, R)) fun x22_ I22 h22 => ?_)
                obtain ⟨hs22, hf22, k22_0, k22_1⟩ := h22
                show P g X 5 91 [(0, .ref a0), (1, .int x1), (2, .int x2), (3, .int x3), (4, .int x4)] [.int x22_] _ _ (K, len, I22, J, R)
                have hF22 : Fr K [(4, 0), (9, 12), (46, 999), (47, 999), (65, 999), (66, 999)] I I22 := hF20.trans hf22 rfl rfl
                have hv0 : I22 rd 0 = x21_ := (Eq.trans (hf22.get krd rfl) e21.symm)
                have hv0t : (I22 rd 0).toInt = x21_.toInt := congrArg Int32.toInt hv0
                exact r_iret hC hQ hlk hr rfl (by decide) (by decide) dX8_read_91 ⟨_, _, rfl, rfl, ⟨hs22, hF22, (by first | exact Or.inr ⟨by omega, by omega, by omega⟩ | exact Or.inl ⟨by omega, by have h9 := congrArg Int32.toInt k22_0; omega, by omega⟩), (by omega)⟩⟩
              · refine r_aload_n hC dX8_read_62 0 rfl ?_
                refine r_iconst hC (v := (3)) dX8_read_63 (by decide) (by decide) (fun x23_ e23 t23 => ?_)
                refine r_callV hC (As := [.int x23_]) (rest := []) (ci := 8) (c_X8_refuse g (xL X) K len I J R hs a0 ka0 x23_) mT_2_133 mT_1_1 mT_2_130 mT_2_132 mP_0 okX8_refuse ⟨by decide, by decide⟩ rfl (by show kO (K a0) = _; rw [ka0]; rfl) rfl rfl (Nat.le_of_ble_eq_true rfl) ⟨by decide, by decide⟩ dX8_read_64 (aI1 (F := fun st M => P g X 5 67 [(0, .ref a0), (1, .int x1), (2, .int x2), (3, .int x3), (4, .int x4)] st _ _ M) (M := (K, len, I, J, R)) fun x24_ I24 h24 => ?_)
                obtain ⟨hs24, hf24, k24_0, k24_1⟩ := h24
                show P g X 5 67 [(0, .ref a0), (1, .int x1), (2, .int x2), (3, .int x3), (4, .int x4)] [.int x24_] _ _ (K, len, I24, J, R)
                have hF24 : Fr K [(4, 0), (9, 12), (46, 999), (47, 999), (65, 999), (66, 999)] I I24 := hF.trans hf24 rfl rfl
                have hv0 : I24 rd 0 = x17_ := (Eq.trans (hf24.get krd rfl) e17.symm)
                have hv0t : (I24 rd 0).toInt = x17_.toInt := congrArg Int32.toInt hv0
                exact r_iret hC hQ hlk hr rfl (by decide) (by decide) dX8_read_67 ⟨_, _, rfl, rfl, ⟨hs24, hF24, (by first | exact Or.inr ⟨by omega, by omega, by omega⟩ | exact Or.inl ⟨by omega, by have h9 := congrArg Int32.toInt k24_0; omega, by omega⟩), (by omega)⟩⟩
            · refine r_aload_n hC dX8_read_44 0 rfl ?_
              refine r_iconst hC (v := (2)) dX8_read_45 (by decide) (by decide) (fun x25_ e25 t25 => ?_)
              refine r_callV hC (As := [.int x25_]) (rest := []) (ci := 8) (c_X8_refuse g (xL X) K len I J R hs a0 ka0 x25_) mT_2_133 mT_1_1 mT_2_130 mT_2_132 mP_0 okX8_refuse ⟨by decide, by decide⟩ rfl (by show kO (K a0) = _; rw [ka0]; rfl) rfl rfl (Nat.le_of_ble_eq_true rfl) ⟨by decide, by decide⟩ dX8_read_46 (aI1 (F := fun st M => P g X 5 49 [(0, .ref a0), (1, .int x1), (2, .int x2), (3, .int x3), (4, .int x4)] st _ _ M) (M := (K, len, I, J, R)) fun x26_ I26 h26 => ?_)
              obtain ⟨hs26, hf26, k26_0, k26_1⟩ := h26
              show P g X 5 49 [(0, .ref a0), (1, .int x1), (2, .int x2), (3, .int x3), (4, .int x4)] [.int x26_] _ _ (K, len, I26, J, R)
              have hF26 : Fr K [(4, 0), (9, 12), (46, 999), (47, 999), (65, 999), (66, 999)] I I26 := hF.trans hf26 rfl rfl
              have hv0 : I26 rd 0 = C0 := (Eq.trans (hf26.get krd rfl) eC0.symm)
              have hv0t : (I26 rd 0).toInt = C0.toInt := congrArg Int32.toInt hv0
              exact r_iret hC hQ hlk hr rfl (by decide) (by decide) dX8_read_49 ⟨_, _, rfl, rfl, ⟨hs26, hF26, (by first | exact Or.inr ⟨by omega, by omega, by omega⟩ | exact Or.inl ⟨by omega, by have h9 := congrArg Int32.toInt k26_0; omega, by omega⟩), (by omega)⟩⟩
    · refine r_if_ne hC (tgt := 21) dX8_read_12 (by decide) (fun c27 => ?_) (fun c27 => ?_)
      · exfalso; omega
      refine r_aload_n hC dX8_read_15 0 rfl ?_
      refine r_iconst hC (v := (1)) dX8_read_16 (by decide) (by decide) (fun x28_ e28 t28 => ?_)
      refine r_callV hC (As := [.int x28_]) (rest := []) (ci := 8) (c_X8_refuse g (xL X) K len I J R hs a0 ka0 x28_) mT_2_133 mT_1_1 mT_2_130 mT_2_132 mP_0 okX8_refuse ⟨by decide, by decide⟩ rfl (by show kO (K a0) = _; rw [ka0]; rfl) rfl rfl (Nat.le_of_ble_eq_true rfl) ⟨by decide, by decide⟩ dX8_read_17 (aI1 (F := fun st M => P g X 5 20 [(0, .ref a0), (1, .int x1), (2, .int x2), (3, .int x3), (4, .int x4)] st _ _ M) (M := (K, len, I, J, R)) fun x29_ I29 h29 => ?_)
      obtain ⟨hs29, hf29, k29_0, k29_1⟩ := h29
      show P g X 5 20 [(0, .ref a0), (1, .int x1), (2, .int x2), (3, .int x3), (4, .int x4)] [.int x29_] _ _ (K, len, I29, J, R)
      have hF29 : Fr K [(4, 0), (9, 12), (46, 999), (47, 999), (65, 999), (66, 999)] I I29 := hF.trans hf29 rfl rfl
      have hv0 : I29 rd 0 = C0 := (Eq.trans (hf29.get krd rfl) eC0.symm)
      have hv0t : (I29 rd 0).toInt = C0.toInt := congrArg Int32.toInt hv0
      exact r_iret hC hQ hlk hr rfl (by decide) (by decide) dX8_read_20 ⟨_, _, rfl, rfl, ⟨hs29, hF29, (by first | exact Or.inr ⟨by omega, by omega, by omega⟩ | exact Or.inl ⟨by omega, by have h9 := congrArg Int32.toInt k29_0; omega, by omega⟩), (by omega)⟩⟩
  · refine r_if_eq hC (tgt := 15) dX8_read_5 (by decide) (fun c30 => ?_) (fun c30 => ?_)
    rotate_left
    · exfalso; omega
    refine r_aload_n hC dX8_read_15 0 rfl ?_
    refine r_iconst hC (v := (1)) dX8_read_16 (by decide) (by decide) (fun x31_ e31 t31 => ?_)
    refine r_callV hC (As := [.int x31_]) (rest := []) (ci := 8) (c_X8_refuse g (xL X) K len I J R hs a0 ka0 x31_) mT_2_133 mT_1_1 mT_2_130 mT_2_132 mP_0 okX8_refuse ⟨by decide, by decide⟩ rfl (by show kO (K a0) = _; rw [ka0]; rfl) rfl rfl (Nat.le_of_ble_eq_true rfl) ⟨by decide, by decide⟩ dX8_read_17 (aI1 (F := fun st M => P g X 5 20 [(0, .ref a0), (1, .int x1), (2, .int x2), (3, .int x3), (4, .int x4)] st _ _ M) (M := (K, len, I, J, R)) fun x32_ I32 h32 => ?_)
    obtain ⟨hs32, hf32, k32_0, k32_1⟩ := h32
    show P g X 5 20 [(0, .ref a0), (1, .int x1), (2, .int x2), (3, .int x3), (4, .int x4)] [.int x32_] _ _ (K, len, I32, J, R)
    have hF32 : Fr K [(4, 0), (9, 12), (46, 999), (47, 999), (65, 999), (66, 999)] I I32 := hF.trans hf32 rfl rfl
    have hv0 : I32 rd 0 = C0 := (Eq.trans (hf32.get krd rfl) eC0.symm)
    have hv0t : (I32 rd 0).toInt = C0.toInt := congrArg Int32.toInt hv0
    exact r_iret hC hQ hlk hr rfl (by decide) (by decide) dX8_read_20 ⟨_, _, rfl, rfl, ⟨hs32, hF32, (by first | exact Or.inr ⟨by omega, by omega, by omega⟩ | exact Or.inl ⟨by omega, by have h9 := congrArg Int32.toInt k32_0; omega, by omega⟩), (by omega)⟩⟩
set_option maxHeartbeats 4000000 in
set_option maxRecDepth 100000 in
theorem f_X8_forget (g : GG) (l : Launch) (K len : Nat → Nat) (I : Nat → Nat → Int32) (J : Nat → Nat → Int64) (R : Nat → Nat → Option Nat) (hs : Sf K len I R) (a0 : Nat) (ka0 : K a0 = 9) (rd : Nat) (hrd : R a0 9 = some rd) (krd : K rd = 4) : Ct g l yX8_forget cX8_forget 2 (Option.some Jvm.ClassFile.FieldType.int) rmX8_forget [.ref a0] (K, len, I, J, R) (pI1 (K, len, I, J, R) (fun r I' => Sf K len I' R ∧ Fr K [(4, 0)] I I' ∧ (r.toInt = (I rd 0).toInt) ∧ ((I' rd 0).toInt = 0))) := by
  refine Ct_intro (by decide +kernel) (Nat.le_of_ble_eq_true rfl) (fun X hC hL hKK hNm hr hlk hQ => ?_)
  subst hL
  have hC : Cx g X cX8_forget "HillTap" 2 rmX8_forget := hC
  show P g X 2 0 [(0, .ref a0)] [] 0 0 (K, len, I, J, R)
  have hF : Fr K [(4, 0)] I I := Fr.refl
  obtain ⟨C0, eC0⟩ : ∃ z : Int32, z = I rd 0 := ⟨_, rfl⟩
  have fC0 : C0.toInt = (I rd 0).toInt := by rw [eC0]
  have rC0 := hs.rng krd rfl eC0
  refine r_aload_n hC dX8_forget_0 0 rfl ?_
  refine r_getr hC 9 (ci := 8) rfl u8_in (by decide) mT_2_87 dX8_forget_1 ka0 rfl rfl hrd ?_
  refine r_geti hC 0 (ci := 3) rfl u3_in (by decide) mT_2_61 dX8_forget_4 krd rfl rfl (fun x1_ e1 => ?_)
  have r1 := hs.rng krd rfl e1
  have f1 : x1_.toInt = (I rd 0).toInt := by rw [e1]
  have w1 : x1_ = C0 := by rw [e1]; exact eC0.symm
  have wt1 : x1_.toInt = C0.toInt := by rw [w1]
  refine r_istore_n hC (lv' := [(1, .int x1_), (0, .ref a0)]) dX8_forget_7 (by decide) rfl ?_
  refine r_aload_n hC dX8_forget_8 1 rfl ?_
  refine r_getr hC 9 (ci := 8) rfl u8_in (by decide) mT_2_87 dX8_forget_9 ka0 rfl rfl hrd ?_
  refine r_iconst hC (v := (0)) dX8_forget_12 (by decide) (by decide) (fun x2_ e2 t2 => ?_)
  refine r_puti hC 0 (ci := 3) rfl u3_in tyX3_ok nmX3 (by decide) mT_2_61 rfl rfl rfl dX8_forget_13 krd rfl rfl (fun I3 eI3 => ?_)
  have hs3 := hs.put1 eI3 krd rfl (by omega) (by omega) rfl rfl (by decide)
  have hF3 := hF.put eI3 krd rfl
  refine r_iload_n hC dX8_forget_16 0 rfl ?_
  have hv0 : I3 rd 0 = x2_ := (by rw [eI3]; exact up2_self _ _ _ _)
  have hv0t : (I3 rd 0).toInt = x2_.toInt := congrArg Int32.toInt hv0
  exact r_iret hC hQ hlk hr rfl (by decide) (by decide) dX8_forget_17 ⟨_, _, rfl, rfl, ⟨hs3, hF3, (by omega), (by omega)⟩⟩
set_option maxHeartbeats 4000000 in
set_option maxRecDepth 100000 in
theorem f_X8_size (g : GG) (l : Launch) (K len : Nat → Nat) (I : Nat → Nat → Int32) (J : Nat → Nat → Int64) (R : Nat → Nat → Option Nat) (hs : Sf K len I R) (a0 : Nat) (ka0 : K a0 = 9) (x1 : Int32) (h : Nat) (hh : R a0 2 = some h) (kh : K h = 2) (lk : Nat) (hlk2 : R h 0 = some lk) (klk : K lk = 3) (rd : Nat) (hrd : R a0 9 = some rd) (krd : K rd = 4) (tp : Nat) (htp : R a0 0 = some tp) (hkt : K tp = 6) : Ct g l yX8_size cX8_size 2 (Option.some Jvm.ClassFile.FieldType.int) rmX8_size [.ref a0, .int x1] (K, len, I, J, R) (pI0 (K, len, I, J, R) (fun r => ((x1.toInt = 0 → r.toInt = (I h 1).toInt)) ∧ ((x1.toInt = 1 → r.toInt = (I lk 4).toInt)) ∧ ((x1.toInt = 2 → r.toInt = (I h 4).toInt)) ∧ ((x1.toInt = 3 → r.toInt = (I h 6).toInt)) ∧ ((x1.toInt = 4 → r.toInt = (I h 8).toInt)) ∧ ((x1.toInt = 5 → r.toInt = (I h 12).toInt)) ∧ ((x1.toInt = 6 → r.toInt = (I rd 0).toInt)) ∧ ((x1.toInt = 7 → r.toInt = (I tp 1).toInt)) ∧ ((x1.toInt = 8 → r.toInt = (I lk 1).toInt)) ∧ ((x1.toInt = 9 → r.toInt = (I lk 3).toInt)) ∧ ((x1.toInt < 0 ∨ 9 < x1.toInt → r.toInt = -1)))) := by
  refine Ct_intro (by decide +kernel) (Nat.le_of_ble_eq_true rfl) (fun X hC hL hKK hNm hr hlk hQ => ?_)
  subst hL
  have hC : Cx g X cX8_size "HillTap" 2 rmX8_size := hC
  show P g X 2 0 [(0, .ref a0), (1, .int x1)] [] 0 0 (K, len, I, J, R)
  have hF : Fr K [] I I := Fr.refl
  have b_x1 := ti_rng x1
  refine r_iload_n hC dX8_size_0 1 rfl ?_
  by_cases o1 : x1.toInt < 0 ∨ 9 < x1.toInt
  · refine r_tabOut hC (tgt := 145) dX8_size_1 o1 (by decide) ?_
    refine r_iconst hC (v := (-1)) dX8_size_145 (by decide) (by decide) (fun x2_ e2 t2 => ?_)
    exact r_iret hC hQ hlk hr rfl (by decide) (by decide) dX8_size_146 ⟨_, rfl, rfl, ⟨(by first | (intro h9; omega)), (by first | (intro h9; omega)), (by first | (intro h9; omega)), (by first | (intro h9; omega)), (by first | (intro h9; omega)), (by first | (intro h9; omega)), (by first | (intro h9; omega)), (by first | (intro h9; omega)), (by first | (intro h9; omega)), (by first | (intro h9; omega)), (by first | (intro h9; omega))⟩⟩
  · rcases (show x1.toInt = 0 ∨ x1.toInt = 1 ∨ x1.toInt = 2 ∨ x1.toInt = 3 ∨ x1.toInt = 4 ∨ x1.toInt = 5 ∨ x1.toInt = 6 ∨ x1.toInt = 7 ∨ x1.toInt = 8 ∨ x1.toInt = 9 by omega) with o1 | o1 | o1 | o1 | o1 | o1 | o1 | o1 | o1 | o1
    · refine r_tabIn hC (tgt := 56) (off := 55) dX8_size_1 (by omega) (by omega) (by rw [o1]; decide) (by decide) ?_
      refine r_aload_n hC dX8_size_56 0 rfl ?_
      refine r_getr hC 2 (ci := 8) rfl u8_in (by decide) mT_2_80 dX8_size_57 ka0 rfl rfl hh ?_
      refine r_geti hC 1 (ci := 1) rfl u1_in (by decide) mT_1_187 dX8_size_60 kh rfl rfl (fun x3_ e3 => ?_)
      have r3 := hs.rng kh rfl e3
      have f3 : x3_.toInt = (I h 1).toInt := by rw [e3]
      exact r_iret hC hQ hlk hr rfl (by decide) (by decide) dX8_size_63 ⟨_, rfl, rfl, ⟨(by first | (intro h9; omega)), (by first | (intro h9; omega)), (by first | (intro h9; omega)), (by first | (intro h9; omega)), (by first | (intro h9; omega)), (by first | (intro h9; omega)), (by first | (intro h9; omega)), (by first | (intro h9; omega)), (by first | (intro h9; omega)), (by first | (intro h9; omega)), (by first | (intro h9; omega))⟩⟩
    · refine r_tabIn hC (tgt := 64) (off := 63) dX8_size_1 (by omega) (by omega) (by rw [o1]; decide) (by decide) ?_
      refine r_aload_n hC dX8_size_64 0 rfl ?_
      refine r_getr hC 2 (ci := 8) rfl u8_in (by decide) mT_2_80 dX8_size_65 ka0 rfl rfl hh ?_
      refine r_getr hC 0 (ci := 1) rfl u1_in (by decide) mT_1_182 dX8_size_68 kh rfl rfl hlk2 ?_
      refine r_geti hC 4 (ci := 2) rfl u2_in (by decide) mT_1_130 dX8_size_71 klk rfl rfl (fun x4_ e4 => ?_)
      have r4 := hs.rng klk rfl e4
      have f4 : x4_.toInt = (I lk 4).toInt := by rw [e4]
      exact r_iret hC hQ hlk hr rfl (by decide) (by decide) dX8_size_74 ⟨_, rfl, rfl, ⟨(by first | (intro h9; omega)), (by first | (intro h9; omega)), (by first | (intro h9; omega)), (by first | (intro h9; omega)), (by first | (intro h9; omega)), (by first | (intro h9; omega)), (by first | (intro h9; omega)), (by first | (intro h9; omega)), (by first | (intro h9; omega)), (by first | (intro h9; omega)), (by first | (intro h9; omega))⟩⟩
    · refine r_tabIn hC (tgt := 75) (off := 74) dX8_size_1 (by omega) (by omega) (by rw [o1]; decide) (by decide) ?_
      refine r_aload_n hC dX8_size_75 0 rfl ?_
      refine r_getr hC 2 (ci := 8) rfl u8_in (by decide) mT_2_80 dX8_size_76 ka0 rfl rfl hh ?_
      refine r_geti hC 4 (ci := 1) rfl u1_in (by decide) mT_1_196 dX8_size_79 kh rfl rfl (fun x5_ e5 => ?_)
      have r5 := hs.rng kh rfl e5
      have f5 : x5_.toInt = (I h 4).toInt := by rw [e5]
      exact r_iret hC hQ hlk hr rfl (by decide) (by decide) dX8_size_82 ⟨_, rfl, rfl, ⟨(by first | (intro h9; omega)), (by first | (intro h9; omega)), (by first | (intro h9; omega)), (by first | (intro h9; omega)), (by first | (intro h9; omega)), (by first | (intro h9; omega)), (by first | (intro h9; omega)), (by first | (intro h9; omega)), (by first | (intro h9; omega)), (by first | (intro h9; omega)), (by first | (intro h9; omega))⟩⟩
    · refine r_tabIn hC (tgt := 83) (off := 82) dX8_size_1 (by omega) (by omega) (by rw [o1]; decide) (by decide) ?_
      refine r_aload_n hC dX8_size_83 0 rfl ?_
      refine r_getr hC 2 (ci := 8) rfl u8_in (by decide) mT_2_80 dX8_size_84 ka0 rfl rfl hh ?_
      refine r_geti hC 6 (ci := 1) rfl u1_in (by decide) mT_1_202 dX8_size_87 kh rfl rfl (fun x6_ e6 => ?_)
      have r6 := hs.rng kh rfl e6
      have f6 : x6_.toInt = (I h 6).toInt := by rw [e6]
      exact r_iret hC hQ hlk hr rfl (by decide) (by decide) dX8_size_90 ⟨_, rfl, rfl, ⟨(by first | (intro h9; omega)), (by first | (intro h9; omega)), (by first | (intro h9; omega)), (by first | (intro h9; omega)), (by first | (intro h9; omega)), (by first | (intro h9; omega)), (by first | (intro h9; omega)), (by first | (intro h9; omega)), (by first | (intro h9; omega)), (by first | (intro h9; omega)), (by first | (intro h9; omega))⟩⟩
    · refine r_tabIn hC (tgt := 91) (off := 90) dX8_size_1 (by omega) (by omega) (by rw [o1]; decide) (by decide) ?_
      refine r_aload_n hC dX8_size_91 0 rfl ?_
      refine r_getr hC 2 (ci := 8) rfl u8_in (by decide) mT_2_80 dX8_size_92 ka0 rfl rfl hh ?_
      refine r_geti hC 8 (ci := 1) rfl u1_in (by decide) mT_1_208 dX8_size_95 kh rfl rfl (fun x7_ e7 => ?_)
      have r7 := hs.rng kh rfl e7
      have f7 : x7_.toInt = (I h 8).toInt := by rw [e7]
      exact r_iret hC hQ hlk hr rfl (by decide) (by decide) dX8_size_98 ⟨_, rfl, rfl, ⟨(by first | (intro h9; omega)), (by first | (intro h9; omega)), (by first | (intro h9; omega)), (by first | (intro h9; omega)), (by first | (intro h9; omega)), (by first | (intro h9; omega)), (by first | (intro h9; omega)), (by first | (intro h9; omega)), (by first | (intro h9; omega)), (by first | (intro h9; omega)), (by first | (intro h9; omega))⟩⟩
    · refine r_tabIn hC (tgt := 99) (off := 98) dX8_size_1 (by omega) (by omega) (by rw [o1]; decide) (by decide) ?_
      refine r_aload_n hC dX8_size_99 0 rfl ?_
      refine r_getr hC 2 (ci := 8) rfl u8_in (by decide) mT_2_80 dX8_size_100 ka0 rfl rfl hh ?_
      refine r_geti hC 12 (ci := 1) rfl u1_in (by decide) mT_1_220 dX8_size_103 kh rfl rfl (fun x8_ e8 => ?_)
      have r8 := hs.rng kh rfl e8
      have f8 : x8_.toInt = (I h 12).toInt := by rw [e8]
      exact r_iret hC hQ hlk hr rfl (by decide) (by decide) dX8_size_106 ⟨_, rfl, rfl, ⟨(by first | (intro h9; omega)), (by first | (intro h9; omega)), (by first | (intro h9; omega)), (by first | (intro h9; omega)), (by first | (intro h9; omega)), (by first | (intro h9; omega)), (by first | (intro h9; omega)), (by first | (intro h9; omega)), (by first | (intro h9; omega)), (by first | (intro h9; omega)), (by first | (intro h9; omega))⟩⟩
    · refine r_tabIn hC (tgt := 107) (off := 106) dX8_size_1 (by omega) (by omega) (by rw [o1]; decide) (by decide) ?_
      refine r_aload_n hC dX8_size_107 0 rfl ?_
      refine r_getr hC 9 (ci := 8) rfl u8_in (by decide) mT_2_87 dX8_size_108 ka0 rfl rfl hrd ?_
      refine r_geti hC 0 (ci := 3) rfl u3_in (by decide) mT_2_61 dX8_size_111 krd rfl rfl (fun x9_ e9 => ?_)
      have r9 := hs.rng krd rfl e9
      have f9 : x9_.toInt = (I rd 0).toInt := by rw [e9]
      exact r_iret hC hQ hlk hr rfl (by decide) (by decide) dX8_size_114 ⟨_, rfl, rfl, ⟨(by first | (intro h9; omega)), (by first | (intro h9; omega)), (by first | (intro h9; omega)), (by first | (intro h9; omega)), (by first | (intro h9; omega)), (by first | (intro h9; omega)), (by first | (intro h9; omega)), (by first | (intro h9; omega)), (by first | (intro h9; omega)), (by first | (intro h9; omega)), (by first | (intro h9; omega))⟩⟩
    · refine r_tabIn hC (tgt := 115) (off := 114) dX8_size_1 (by omega) (by omega) (by rw [o1]; decide) (by decide) ?_
      refine r_aload_n hC dX8_size_115 0 rfl ?_
      refine r_getr hC 0 (ci := 8) rfl u8_in (by decide) mT_2_78 dX8_size_116 ka0 rfl rfl htp ?_
      refine r_geti hC 1 (ci := 5) rfl u5_in (by decide) mT_1_38 dX8_size_119 hkt rfl rfl (fun x10_ e10 => ?_)
      have r10 := hs.rng hkt rfl e10
      have f10 : x10_.toInt = (I tp 1).toInt := by rw [e10]
      exact r_iret hC hQ hlk hr rfl (by decide) (by decide) dX8_size_122 ⟨_, rfl, rfl, ⟨(by first | (intro h9; omega)), (by first | (intro h9; omega)), (by first | (intro h9; omega)), (by first | (intro h9; omega)), (by first | (intro h9; omega)), (by first | (intro h9; omega)), (by first | (intro h9; omega)), (by first | (intro h9; omega)), (by first | (intro h9; omega)), (by first | (intro h9; omega)), (by first | (intro h9; omega))⟩⟩
    · refine r_tabIn hC (tgt := 123) (off := 122) dX8_size_1 (by omega) (by omega) (by rw [o1]; decide) (by decide) ?_
      refine r_aload_n hC dX8_size_123 0 rfl ?_
      refine r_getr hC 2 (ci := 8) rfl u8_in (by decide) mT_2_80 dX8_size_124 ka0 rfl rfl hh ?_
      refine r_getr hC 0 (ci := 1) rfl u1_in (by decide) mT_1_182 dX8_size_127 kh rfl rfl hlk2 ?_
      refine r_geti hC 1 (ci := 2) rfl u2_in (by decide) mT_1_122 dX8_size_130 klk rfl rfl (fun x11_ e11 => ?_)
      have f11 : x11_.toInt = (I lk 1).toInt := by rw [e11]
      exact r_iret hC hQ hlk hr rfl (by decide) (by decide) dX8_size_133 ⟨_, rfl, rfl, ⟨(by first | (intro h9; omega)), (by first | (intro h9; omega)), (by first | (intro h9; omega)), (by first | (intro h9; omega)), (by first | (intro h9; omega)), (by first | (intro h9; omega)), (by first | (intro h9; omega)), (by first | (intro h9; omega)), (by first | (intro h9; omega)), (by first | (intro h9; omega)), (by first | (intro h9; omega))⟩⟩
    · refine r_tabIn hC (tgt := 134) (off := 133) dX8_size_1 (by omega) (by omega) (by rw [o1]; decide) (by decide) ?_
      refine r_aload_n hC dX8_size_134 0 rfl ?_
      refine r_getr hC 2 (ci := 8) rfl u8_in (by decide) mT_2_80 dX8_size_135 ka0 rfl rfl hh ?_
      refine r_getr hC 0 (ci := 1) rfl u1_in (by decide) mT_1_182 dX8_size_138 kh rfl rfl hlk2 ?_
      refine r_geti hC 3 (ci := 2) rfl u2_in (by decide) mT_1_127 dX8_size_141 klk rfl rfl (fun x12_ e12 => ?_)
      have f12 : x12_.toInt = (I lk 3).toInt := by rw [e12]
      exact r_iret hC hQ hlk hr rfl (by decide) (by decide) dX8_size_144 ⟨_, rfl, rfl, ⟨(by first | (intro h9; omega)), (by first | (intro h9; omega)), (by first | (intro h9; omega)), (by first | (intro h9; omega)), (by first | (intro h9; omega)), (by first | (intro h9; omega)), (by first | (intro h9; omega)), (by first | (intro h9; omega)), (by first | (intro h9; omega)), (by first | (intro h9; omega)), (by first | (intro h9; omega))⟩⟩
set_option maxHeartbeats 4000000 in
set_option maxRecDepth 100000 in
theorem f_X10_isDay (g : GG) (l : Launch) (K len : Nat → Nat) (I : Nat → Nat → Int32) (J : Nat → Nat → Int64) (R : Nat → Nat → Option Nat) (hs : Sf K len I R) (a0 : Nat) (ka0 : K a0 = 11) (x1 : Int32) : Ct g l yX10_isDay cX10_isDay 2 (Option.some Jvm.ClassFile.FieldType.boolean) rmX10_isDay [.ref a0, .int x1] (K, len, I, J, R) (pI0 (K, len, I, J, R) (fun r => ((R a0 3 = none ∧ r.toInt = 0) ∨ (∃ hm, R a0 3 = some hm ∧ (r.toInt = 1 ∧ (0 ≤ x1.toInt ∧ x1.toInt ≤ 59) ∨ r.toInt = 0 ∧ ¬ (0 ≤ x1.toInt ∧ x1.toInt ≤ 59)))))) := by
  refine Ct_intro (by decide +kernel) (Nat.le_of_ble_eq_true rfl) (fun X hC hL hKK hNm hr hlk hQ => ?_)
  subst hL
  have hC : Cx g X cX10_isDay "HillTapModel" 2 rmX10_isDay := hC
  show P g X 2 0 [(0, .ref a0), (1, .int x1)] [] 0 0 (K, len, I, J, R)
  have hF : Fr K [] I I := Fr.refl
  have b_x1 := ti_rng x1
  refine r_aload_n hC dX10_isDay_0 0 rfl ?_
  rcases hs.2.1.2.2.1 a0 ka0 with hz1 | ⟨a1_, hb1, hk1⟩
  · refine r_getz hC 3 (ci := 10) rfl u10_in (by decide) mT_4_238 dX10_isDay_1 ka0 rfl rfl hz1 ?_
    refine r_ifnullN hC (tgt := 21) dX10_isDay_4 (by decide) ?_
    refine r_iconst hC (v := (0)) dX10_isDay_21 (by decide) (by decide) (fun x2_ e2 t2 => ?_)
    exact r_iret hC hQ hlk hr (by rw [e2]; rfl) (by decide) (by decide) dX10_isDay_22 ⟨_, rfl, rfl, (by first | exact Or.inl ⟨hz1, by omega⟩ | exact Or.inr ⟨_, hz1, by omega⟩)⟩
  · refine r_getr hC 3 (ci := 10) rfl u10_in (by decide) mT_4_238 dX10_isDay_1 ka0 rfl rfl hb1 ?_
    refine r_ifnull hC dX10_isDay_4 ?_
    refine r_iload_n hC dX10_isDay_7 1 rfl ?_
    refine r_if_lt hC (tgt := 21) dX10_isDay_8 (by decide) (fun c3 => ?_) (fun c3 => ?_)
    · refine r_iconst hC (v := (0)) dX10_isDay_21 (by decide) (by decide) (fun x4_ e4 t4 => ?_)
      exact r_iret hC hQ hlk hr (by rw [e4]; rfl) (by decide) (by decide) dX10_isDay_22 ⟨_, rfl, rfl, (by first | exact Or.inl ⟨hb1, by omega⟩ | exact Or.inr ⟨_, hb1, by omega⟩)⟩
    · refine r_iload_n hC dX10_isDay_11 1 rfl ?_
      refine r_bipush hC (v := (60)) dX10_isDay_12 (by decide) (by decide) (fun x5_ e5 t5 => ?_)
      refine r_icmp_ge hC (tgt := 21) dX10_isDay_14 (by decide) (fun c6 => ?_) (fun c6 => ?_)
      · refine r_iconst hC (v := (0)) dX10_isDay_21 (by decide) (by decide) (fun x7_ e7 t7 => ?_)
        exact r_iret hC hQ hlk hr (by rw [e7]; rfl) (by decide) (by decide) dX10_isDay_22 ⟨_, rfl, rfl, (by first | exact Or.inl ⟨hb1, by omega⟩ | exact Or.inr ⟨_, hb1, by omega⟩)⟩
      · refine r_iconst hC (v := (1)) dX10_isDay_17 (by decide) (by decide) (fun x8_ e8 t8 => ?_)
        refine r_goto hC (tgt := 22) dX10_isDay_18 (by decide) ?_
        exact r_iret hC hQ hlk hr (by rw [e8]; rfl) (by decide) (by decide) dX10_isDay_22 ⟨_, rfl, rfl, (by first | exact Or.inl ⟨hb1, by omega⟩ | exact Or.inr ⟨_, hb1, by omega⟩)⟩
set_option maxHeartbeats 4000000 in
set_option maxRecDepth 100000 in
theorem f_X10_isPeg (g : GG) (l : Launch) (K len : Nat → Nat) (I : Nat → Nat → Int32) (J : Nat → Nat → Int64) (R : Nat → Nat → Option Nat) (hs : Sf K len I R) (a0 : Nat) (ka0 : K a0 = 11) (x1 : Int32) : Ct g l yX10_isPeg cX10_isPeg 2 (Option.some Jvm.ClassFile.FieldType.boolean) rmX10_isPeg [.ref a0, .int x1] (K, len, I, J, R) (pI0 (K, len, I, J, R) (fun r => ((R a0 3 = none ∧ r.toInt = 0) ∨ (∃ hm, R a0 3 = some hm ∧ (r.toInt = 1 ∧ (0 ≤ x1.toInt ∧ x1.toInt < (I hm 3).toInt) ∨ r.toInt = 0 ∧ ¬ (0 ≤ x1.toInt ∧ x1.toInt < (I hm 3).toInt)))))) := by
  refine Ct_intro (by decide +kernel) (Nat.le_of_ble_eq_true rfl) (fun X hC hL hKK hNm hr hlk hQ => ?_)
  subst hL
  have hC : Cx g X cX10_isPeg "HillTapModel" 2 rmX10_isPeg := hC
  show P g X 2 0 [(0, .ref a0), (1, .int x1)] [] 0 0 (K, len, I, J, R)
  have hF : Fr K [] I I := Fr.refl
  have b_x1 := ti_rng x1
  refine r_aload_n hC dX10_isPeg_0 0 rfl ?_
  rcases hs.2.1.2.2.1 a0 ka0 with hz1 | ⟨a1_, hb1, hk1⟩
  · refine r_getz hC 3 (ci := 10) rfl u10_in (by decide) mT_4_238 dX10_isPeg_1 ka0 rfl rfl hz1 ?_
    refine r_ifnullN hC (tgt := 26) dX10_isPeg_4 (by decide) ?_
    refine r_iconst hC (v := (0)) dX10_isPeg_26 (by decide) (by decide) (fun x2_ e2 t2 => ?_)
    exact r_iret hC hQ hlk hr (by rw [e2]; rfl) (by decide) (by decide) dX10_isPeg_27 ⟨_, rfl, rfl, (by first | exact Or.inl ⟨hz1, by omega⟩ | exact Or.inr ⟨_, hz1, by omega⟩)⟩
  · refine r_getr hC 3 (ci := 10) rfl u10_in (by decide) mT_4_238 dX10_isPeg_1 ka0 rfl rfl hb1 ?_
    refine r_ifnull hC dX10_isPeg_4 ?_
    refine r_iload_n hC dX10_isPeg_7 1 rfl ?_
    refine r_if_lt hC (tgt := 26) dX10_isPeg_8 (by decide) (fun c3 => ?_) (fun c3 => ?_)
    · refine r_iconst hC (v := (0)) dX10_isPeg_26 (by decide) (by decide) (fun x4_ e4 t4 => ?_)
      exact r_iret hC hQ hlk hr (by rw [e4]; rfl) (by decide) (by decide) dX10_isPeg_27 ⟨_, rfl, rfl, (by first | exact Or.inl ⟨hb1, by omega⟩ | exact Or.inr ⟨_, hb1, by omega⟩)⟩
    · refine r_iload_n hC dX10_isPeg_11 1 rfl ?_
      refine r_aload_n hC dX10_isPeg_12 0 rfl ?_
      refine r_getr hC 3 (ci := 10) rfl u10_in (by decide) mT_4_238 dX10_isPeg_13 ka0 rfl rfl hb1 ?_
      refine r_getiN hC 3 (ci := 9) rfl u9_in (by decide) nF_3 dX10_isPeg_16 hk1 rfl rfl (fun x5_ e5 => ?_)
      have r5 := hs.rng hk1 rfl e5
      have f5 : x5_.toInt = (I a1_ 3).toInt := by rw [e5]
      refine r_icmp_ge hC (tgt := 26) dX10_isPeg_19 (by decide) (fun c6 => ?_) (fun c6 => ?_)
      · refine r_iconst hC (v := (0)) dX10_isPeg_26 (by decide) (by decide) (fun x7_ e7 t7 => ?_)
        exact r_iret hC hQ hlk hr (by rw [e7]; rfl) (by decide) (by decide) dX10_isPeg_27 ⟨_, rfl, rfl, (by first | exact Or.inl ⟨hb1, by omega⟩ | exact Or.inr ⟨_, hb1, by omega⟩)⟩
      · refine r_iconst hC (v := (1)) dX10_isPeg_22 (by decide) (by decide) (fun x8_ e8 t8 => ?_)
        refine r_goto hC (tgt := 27) dX10_isPeg_23 (by decide) ?_
        exact r_iret hC hQ hlk hr (by rw [e8]; rfl) (by decide) (by decide) dX10_isPeg_27 ⟨_, rfl, rfl, (by first | exact Or.inl ⟨hb1, by omega⟩ | exact Or.inr ⟨_, hb1, by omega⟩)⟩
set_option maxHeartbeats 4000000 in
set_option maxRecDepth 100000 in
theorem f_X10_plan (g : GG) (l : Launch) (K len : Nat → Nat) (I : Nat → Nat → Int32) (J : Nat → Nat → Int64) (R : Nat → Nat → Option Nat) (hs : Sf K len I R) (a0 : Nat) (ka0 : K a0 = 11) (x1 : Int32) (x2 : Int32) (D : DD) (hmx : ∀ hm, R a0 3 = some hm → RW (CM hm R) (cntN D) D I ∧ (I hm 4).toInt = D 0 4) : Ct g l yX10_plan cX10_plan 3 (Option.some Jvm.ClassFile.FieldType.int) rmX10_plan [.ref a0, .int x1, .int x2] (K, len, I, J, R) (pI1 (K, len, I, J, R) (fun r I' => Sf K len I' R ∧ Fr K [(10, 4), (11, 0), (11, 1), (11, 2), (72, 999), (73, 999)] I I' ∧ ((R a0 3 = none ∧ r.toInt = -1) ∨ (∃ hm, R a0 3 = some hm ∧ (((0 ≤ x1.toInt ∧ x1.toInt ≤ 59 ∧ 0 ≤ x2.toInt ∧ x2.toInt ≤ 999 ∧ (I hm 4).toInt < 16) ∧ r.toInt = (I hm 4).toInt + 1 ∧ (I' hm 4).toInt = (I hm 4).toInt + 1) ∨ (¬ (0 ≤ x1.toInt ∧ x1.toInt ≤ 59 ∧ 0 ≤ x2.toInt ∧ x2.toInt ≤ 999 ∧ (I hm 4).toInt < 16) ∧ r.toInt = -1 ∧ (I' hm 4).toInt = (I hm 4).toInt)))) ∧ (∀ hm, R a0 3 = some hm → ((0 ≤ x1.toInt ∧ x1.toInt ≤ 59 ∧ 0 ≤ x2.toInt ∧ x2.toInt ≤ 999 ∧ (I hm 4).toInt < 16) → RW (CM hm R) (cntN (aFrom D x1.toInt x2.toInt)) (aFrom D x1.toInt x2.toInt) I') ∧ (¬ (0 ≤ x1.toInt ∧ x1.toInt ≤ 59 ∧ 0 ≤ x2.toInt ∧ x2.toInt ≤ 999 ∧ (I hm 4).toInt < 16) → RW (CM hm R) (cntN D) D I')) ∧ ((I' a0 2).toInt = -1))) := by
  refine Ct_intro (by decide +kernel) (Nat.le_of_ble_eq_true rfl) (fun X hC hL hKK hNm hr hlk hQ => ?_)
  subst hL
  have hC : Cx g X cX10_plan "HillTapModel" 3 rmX10_plan := hC
  show P g X 3 0 [(0, .ref a0), (1, .int x1), (2, .int x2)] [] 0 0 (K, len, I, J, R)
  have hF : Fr K [(10, 4), (11, 0), (11, 1), (11, 2), (72, 999), (73, 999)] I I := Fr.refl
  have b_x1 := ti_rng x1
  have b_x2 := ti_rng x2
  rcases hs.2.1.2.2.1 a0 ka0 with hz | ⟨hm, hbm, khm⟩
  · refine r_aload_n hC dX10_plan_0 0 rfl ?_
    refine r_iconst hC (v := (0)) dX10_plan_1 (by decide) (by decide) (fun x1_ e1 t1 => ?_)
    refine r_puti hC 0 (ci := 10) rfl u10_in tyX10_ok nmX10 (by decide) mT_4_235 rfl rfl rfl dX10_plan_2 ka0 rfl rfl (fun I2 eI2 => ?_)
    have hs2 := hs.put0 eI2 ka0 rfl rfl rfl (by decide)
    have hF2 := hF.put eI2 ka0 rfl
    refine r_aload_n hC dX10_plan_5 0 rfl ?_
    refine r_getz hC 3 (ci := 10) rfl u10_in (by decide) mT_4_238 dX10_plan_6 ka0 rfl rfl hz ?_
    refine r_ifnonnullN hC dX10_plan_9 ?_
    refine r_aload_n hC dX10_plan_12 0 rfl ?_
    refine r_iconst hC (v := (1)) dX10_plan_13 (by decide) (by decide) (fun x3_ e3 t3 => ?_)
    refine r_callV hC (As := [.int x3_]) (rest := []) (ci := 10) (c_X10_refused g (xL X) K len I2 J R hs2 a0 ka0 x3_) mT_5_85 mT_1_10 mT_5_82 mT_5_84 mP_48 okX10_refused ⟨by decide, by decide⟩ rfl (by show kO (K a0) = _; rw [ka0]; rfl) rfl rfl (Nat.le_of_ble_eq_true rfl) ⟨by decide, by decide⟩ dX10_plan_14 (aI1 (F := fun st M => P g X 3 17 [(0, .ref a0), (1, .int x1), (2, .int x2)] st _ _ M) (M := (K, len, I2, J, R)) fun x4_ I4 h4 => ?_)
    obtain ⟨hs4, hf4, k4_0, k4_1, k4_2⟩ := h4
    show P g X 3 17 [(0, .ref a0), (1, .int x1), (2, .int x2)] [.int x4_] _ _ (K, len, I4, J, R)
    have hF4 : Fr K [(10, 4), (11, 0), (11, 1), (11, 2), (72, 999), (73, 999)] I I4 := hF2.trans hf4 rfl rfl
    exact r_iret hC hQ hlk hr rfl (by decide) (by decide) dX10_plan_17 ⟨_, _, rfl, rfl, ⟨hs4, hF4, (by first | exact Or.inl ⟨hz, by omega⟩ | exact Or.inr ⟨hm, hbm, Or.inr ⟨by omega, by omega, by omega⟩⟩ | exact Or.inr ⟨hm, hbm, Or.inl ⟨by omega, by have h9 := congrArg Int32.toInt k4_0; omega, by omega⟩⟩), (by first | exact fun z hz9 => by rw [hz] at hz9; cases hz9 | exact fun z hz9 => by rw [hbm] at hz9; cases hz9; first | exact ⟨fun h9 => by exfalso; omega, fun _ => NOrwd⟩ | exact ⟨fun _ => NOrwd.frm (by omega), fun h9 => by exfalso; omega⟩), (by omega)⟩⟩
  · obtain ⟨S0, eS0⟩ : ∃ z : Int32, z = I hm 7 := ⟨_, rfl⟩
    have fS0 : S0.toInt = (I hm 7).toInt := by rw [eS0]
    have rS0 := hs.rng khm rfl eS0
    obtain ⟨F4, eF4⟩ : ∃ z : Int32, z = I hm 4 := ⟨_, rfl⟩
    have fF4 : F4.toInt = (I hm 4).toInt := by rw [eF4]
    have rF4 := hs.rng khm rfl eF4
    obtain ⟨rwd, hdx⟩ := hmx hm hbm
    have hcx := CM_x hs khm
    refine r_aload_n hC dX10_plan_0 0 rfl ?_
    refine r_iconst hC (v := (0)) dX10_plan_1 (by decide) (by decide) (fun x5_ e5 t5 => ?_)
    refine r_puti hC 0 (ci := 10) rfl u10_in tyX10_ok nmX10 (by decide) mT_4_235 rfl rfl rfl dX10_plan_2 ka0 rfl rfl (fun I6 eI6 => ?_)
    have hs6 := hs.put0 eI6 ka0 rfl rfl rfl (by decide)
    have hF6 := hF.put eI6 ka0 rfl
    have rw6 := rwd.putO hcx eI6 ka0 rfl
    refine r_aload_n hC dX10_plan_5 0 rfl ?_
    refine r_getr hC 3 (ci := 10) rfl u10_in (by decide) mT_4_238 dX10_plan_6 ka0 rfl rfl hbm ?_
    refine r_ifnonnull hC (tgt := 18) dX10_plan_9 (by decide) ?_
    refine r_iload_n hC dX10_plan_18 1 rfl ?_
    refine r_iconst hC (v := (0)) dX10_plan_19 (by decide) (by decide) (fun x7_ e7 t7 => ?_)
    refine r_bipush hC (v := (59)) dX10_plan_20 (by decide) (by decide) (fun x8_ e8 t8 => ?_)
    refine r_callS hC (As := [.int x1, .int x7_, .int x8_]) (rest := []) (f_X10_in g (xL X) K len I6 J R hs6 x1 x7_ x8_) mT_6_8 mT_1_10 mT_6_6 mT_6_7 okX10_in ⟨by decide, by decide⟩ rfl rfl (Nat.le_of_ble_eq_true rfl) ⟨by decide, by decide⟩ dX10_plan_22 (aI0 (F := fun st M => P g X 3 25 [(0, .ref a0), (1, .int x1), (2, .int x2)] st _ _ M) (M := (K, len, I6, J, R)) fun x9_ h9 => ?_)
    have k9_0 := h9
    clear h9
    show P g X 3 25 [(0, .ref a0), (1, .int x1), (2, .int x2)] [.int x9_] _ _ (K, len, I6, J, R)
    rcases k9_0 with ⟨hr9, hw9⟩ | ⟨hr9, hw9⟩
    · refine r_if_eq hC (tgt := 39) dX10_plan_25 (by decide) (fun c10 => ?_) (fun c10 => ?_)
      · exfalso; omega
      refine r_iload_n hC dX10_plan_28 2 rfl ?_
      refine r_iconst hC (v := (0)) dX10_plan_29 (by decide) (by decide) (fun x11_ e11 t11 => ?_)
      refine r_sipush hC (v := (999)) dX10_plan_30 (by decide) (by decide) (fun x12_ e12 t12 => ?_)
      refine r_callS hC (As := [.int x2, .int x11_, .int x12_]) (rest := []) (f_X10_in g (xL X) K len I6 J R hs6 x2 x11_ x12_) mT_6_8 mT_1_10 mT_6_6 mT_6_7 okX10_in ⟨by decide, by decide⟩ rfl rfl (Nat.le_of_ble_eq_true rfl) ⟨by decide, by decide⟩ dX10_plan_33 (aI0 (F := fun st M => P g X 3 36 [(0, .ref a0), (1, .int x1), (2, .int x2)] st _ _ M) (M := (K, len, I6, J, R)) fun x13_ h13 => ?_)
      have k13_0 := h13
      clear h13
      show P g X 3 36 [(0, .ref a0), (1, .int x1), (2, .int x2)] [.int x13_] _ _ (K, len, I6, J, R)
      rcases k13_0 with ⟨hr13, hw13⟩ | ⟨hr13, hw13⟩
      · refine r_if_ne hC (tgt := 45) dX10_plan_36 (by decide) (fun c14 => ?_) (fun c14 => ?_)
        rotate_left
        · exfalso; omega
        refine r_aload_n hC dX10_plan_45 0 rfl ?_
        refine r_getr hC 3 (ci := 10) rfl u10_in (by decide) mT_4_238 dX10_plan_46 ka0 rfl rfl hbm ?_
        refine r_getiN hC 4 (ci := 9) rfl u9_in (by decide) nF_4 dX10_plan_49 khm rfl rfl (fun x15_ e15 => ?_)
        have r15 := hs6.rng khm rfl e15
        have f15 : x15_.toInt = (I6 hm 4).toInt := by rw [e15]
        have w15 : x15_ = F4 := by rw [e15]; exact (Eq.trans (up2_kk eI6 ka0 khm (by decide)) eF4.symm)
        have wt15 : x15_.toInt = F4.toInt := by rw [w15]
        refine r_bipush hC (v := (16)) dX10_plan_52 (by decide) (by decide) (fun x16_ e16 t16 => ?_)
        refine r_icmp_ne hC (tgt := 63) dX10_plan_54 (by decide) (fun c17 => ?_) (fun c17 => ?_)
        · refine r_aload_n hC dX10_plan_63 0 rfl ?_
          refine r_getr hC 3 (ci := 10) rfl u10_in (by decide) mT_4_238 dX10_plan_64 ka0 rfl rfl hbm ?_
          obtain ⟨a18_, hb18, hk18, hn18⟩ := hs6.row khm 13 72 16 (by decide) (by decide)
          refine r_getrN hC 13 (ci := 9) rfl u9_in (by decide) nF_13 dX10_plan_67 khm rfl rfl hb18 ?_
          refine r_aload_n hC dX10_plan_70 0 rfl ?_
          refine r_getr hC 3 (ci := 10) rfl u10_in (by decide) mT_4_238 dX10_plan_71 ka0 rfl rfl hbm ?_
          refine r_getiN hC 4 (ci := 9) rfl u9_in (by decide) nF_4 dX10_plan_74 khm rfl rfl (fun x19_ e19 => ?_)
          have r19 := hs6.rng khm rfl e19
          have f19 : x19_.toInt = (I6 hm 4).toInt := by rw [e19]
          have w19 : x19_ = x15_ := by rw [e19]; exact e15.symm
          have wt19 : x19_.toInt = x15_.toInt := by rw [w19]
          refine r_iload_n hC dX10_plan_77 1 rfl ?_
          refine x_iastore hC hk18 hn18 (by decide) rfl rfl dX10_plan_78 (by omega) (by omega) (fun I20 eI20 => ?_)
          have hs20 := hs6.put0 eI20 hk18 (rng_arr (by decide) _) rfl (xF_arr (by decide) _) (by decide)
          have hF20 := hF6.put eI20 hk18 (inS_arr rfl _)
          have eC20 := eI20
          rw [clx (show x19_.toInt = D 0 4 by omega) (show 0 ≤ D 0 4 by omega)] at eC20
          have rw20 := rw6.put hcx (r0 := 3) (j0 := (D 0 4).toNat) (w := x1.toInt) (cM (r := 3) (by decide) (by decide) hb18) eC20 rfl (by rw [cnt_3]; omega) (fun h9 => absurd h9 (by decide))
          refine r_aload_n hC dX10_plan_79 0 rfl ?_
          refine r_getr hC 3 (ci := 10) rfl u10_in (by decide) mT_4_238 dX10_plan_80 ka0 rfl rfl hbm ?_
          obtain ⟨a21_, hb21, hk21, hn21⟩ := hs20.row khm 14 73 16 (by decide) (by decide)
          refine r_getrN hC 14 (ci := 9) rfl u9_in (by decide) nF_14 dX10_plan_83 khm rfl rfl hb21 ?_
          refine r_aload_n hC dX10_plan_86 0 rfl ?_
          refine r_getr hC 3 (ci := 10) rfl u10_in (by decide) mT_4_238 dX10_plan_87 ka0 rfl rfl hbm ?_
          refine r_getiN hC 4 (ci := 9) rfl u9_in (by decide) nF_4 dX10_plan_90 khm rfl rfl (fun x22_ e22 => ?_)
          have r22 := hs20.rng khm rfl e22
          have f22 : x22_.toInt = (I20 hm 4).toInt := by rw [e22]
          have w22 : x22_ = x19_ := by rw [e22]; exact (Eq.trans (up2_kk eI20 hk18 khm (by decide)) e19.symm)
          have wt22 : x22_.toInt = x19_.toInt := by rw [w22]
          refine r_iload_n hC dX10_plan_93 2 rfl ?_
          refine x_iastore hC hk21 hn21 (by decide) rfl rfl dX10_plan_94 (by omega) (by omega) (fun I23 eI23 => ?_)
          have hs23 := hs20.put0 eI23 hk21 (rng_arr (by decide) _) rfl (xF_arr (by decide) _) (by decide)
          have hF23 := hF20.put eI23 hk21 (inS_arr rfl _)
          have eC23 := eI23
          rw [clx (show x22_.toInt = D 0 4 by omega) (show 0 ≤ D 0 4 by omega)] at eC23
          have rw23 := rw20.put hcx (r0 := 4) (j0 := (D 0 4).toNat) (w := x2.toInt) (cM (r := 4) (by decide) (by decide) hb21) eC23 rfl (by rw [upN_o (by decide), cnt_4]; omega) (fun h9 => absurd h9 (by decide))
          refine r_aload_n hC dX10_plan_95 0 rfl ?_
          refine r_getr hC 3 (ci := 10) rfl u10_in (by decide) mT_4_238 dX10_plan_96 ka0 rfl rfl hbm ?_
          refine r_dup hC dX10_plan_99 rfl ?_
          refine r_getiN hC 4 (ci := 9) rfl u9_in (by decide) nF_4 dX10_plan_100 khm rfl rfl (fun x24_ e24 => ?_)
          have r24 := hs23.rng khm rfl e24
          have f24 : x24_.toInt = (I23 hm 4).toInt := by rw [e24]
          have w24 : x24_ = x22_ := by rw [e24]; exact (Eq.trans (up2_kk eI23 hk21 khm (by decide)) e22.symm)
          have wt24 : x24_.toInt = x22_.toInt := by rw [w24]
          refine r_iconst hC (v := (1)) dX10_plan_103 (by decide) (by decide) (fun x25_ e25 t25 => ?_)
          refine r_iadd hC dX10_plan_104 (fun x26_ e26 => ?_)
          try have t26 : x26_.toInt = x24_.toInt + x25_.toInt := by rw [e26]; exact ti_add (by omega) (by omega)
          refine r_putiN hC 4 (ci := 9) rfl u9_in tyX9_ok nmX9 (by decide) nF_4 rfl rfl rfl dX10_plan_105 khm rfl rfl (fun I27 eI27 => ?_)
          have hs27 : Sf K len I27 R := hs23.putA4 eI27 khm (by omega) (by omega) (by have h9 := hs23.told khm; omega)
          have hF27 := hF23.put eI27 khm rfl
          have rw27 := rw23.putO hcx eI27 khm rfl
          refine r_aload_n hC dX10_plan_108 0 rfl ?_
          refine r_aload_n hC dX10_plan_109 0 rfl ?_
          refine r_getr hC 3 (ci := 10) rfl u10_in (by decide) mT_4_238 dX10_plan_110 ka0 rfl rfl hbm ?_
          refine r_getiN hC 4 (ci := 9) rfl u9_in (by decide) nF_4 dX10_plan_113 khm rfl rfl (fun x28_ e28 => ?_)
          have r28 := hs27.rng khm rfl e28
          have f28 : x28_.toInt = (I27 hm 4).toInt := by rw [e28]
          have w28 : x28_ = x26_ := by rw [e28]; exact (by rw [eI27]; exact up2_self _ _ _ _)
          have wt28 : x28_.toInt = x26_.toInt := by rw [w28]
          refine r_callV hC (As := [.int x28_]) (rest := []) (ci := 10) (c_X10_done g (xL X) K len I27 J R hs27 a0 ka0 x28_) mT_6_79 mT_1_10 mT_6_76 mT_6_78 mP_67 okX10_done ⟨by decide, by decide⟩ rfl (by show kO (K a0) = _; rw [ka0]; rfl) rfl rfl (Nat.le_of_ble_eq_true rfl) ⟨by decide, by decide⟩ dX10_plan_116 (aI1 (F := fun st M => P g X 3 119 [(0, .ref a0), (1, .int x1), (2, .int x2)] st _ _ M) (M := (K, len, I27, J, R)) fun x29_ I29 h29 => ?_)
          obtain ⟨hs29, hf29, k29_0, k29_1, k29_2⟩ := h29
          show P g X 3 119 [(0, .ref a0), (1, .int x1), (2, .int x2)] [.int x29_] _ _ (K, len, I29, J, R)
          have hF29 : Fr K [(10, 4), (11, 0), (11, 1), (11, 2), (72, 999), (73, 999)] I I29 := hF27.trans hf29 rfl rfl
          have rw29 := rw27.mv hcx qM_big hf29 rfl
          have hv4 : I29 hm 4 = x28_ := (Eq.trans (hf29.get khm rfl) e28.symm)
          have hv4t : (I29 hm 4).toInt = x28_.toInt := congrArg Int32.toInt hv4
          exact r_iret hC hQ hlk hr rfl (by decide) (by decide) dX10_plan_119 ⟨_, _, rfl, rfl, ⟨hs29, hF29, (by first | exact Or.inl ⟨hz, by omega⟩ | exact Or.inr ⟨hm, hbm, Or.inr ⟨by omega, by omega, by omega⟩⟩ | exact Or.inr ⟨hm, hbm, Or.inl ⟨by omega, by have h9 := congrArg Int32.toInt k29_0; omega, by omega⟩⟩), (by first | exact fun z hz9 => by rw [hz] at hz9; cases hz9 | exact fun z hz9 => by rw [hbm] at hz9; cases hz9; first | exact ⟨fun h9 => by exfalso; omega, fun _ => rw29⟩ | exact ⟨fun _ => rw29.frm (by omega), fun h9 => by exfalso; omega⟩), (by omega)⟩⟩
        · refine r_aload_n hC dX10_plan_57 0 rfl ?_
          refine r_iconst hC (v := (3)) dX10_plan_58 (by decide) (by decide) (fun x30_ e30 t30 => ?_)
          refine r_callV hC (As := [.int x30_]) (rest := []) (ci := 10) (c_X10_refused g (xL X) K len I6 J R hs6 a0 ka0 x30_) mT_5_85 mT_1_10 mT_5_82 mT_5_84 mP_48 okX10_refused ⟨by decide, by decide⟩ rfl (by show kO (K a0) = _; rw [ka0]; rfl) rfl rfl (Nat.le_of_ble_eq_true rfl) ⟨by decide, by decide⟩ dX10_plan_59 (aI1 (F := fun st M => P g X 3 62 [(0, .ref a0), (1, .int x1), (2, .int x2)] st _ _ M) (M := (K, len, I6, J, R)) fun x31_ I31 h31 => ?_)
          obtain ⟨hs31, hf31, k31_0, k31_1, k31_2⟩ := h31
          show P g X 3 62 [(0, .ref a0), (1, .int x1), (2, .int x2)] [.int x31_] _ _ (K, len, I31, J, R)
          have hF31 : Fr K [(10, 4), (11, 0), (11, 1), (11, 2), (72, 999), (73, 999)] I I31 := hF6.trans hf31 rfl rfl
          have rw31 := rw6.mv hcx qM_big hf31 rfl
          have hv4 : I31 hm 4 = x15_ := (Eq.trans (hf31.get khm rfl) e15.symm)
          have hv4t : (I31 hm 4).toInt = x15_.toInt := congrArg Int32.toInt hv4
          exact r_iret hC hQ hlk hr rfl (by decide) (by decide) dX10_plan_62 ⟨_, _, rfl, rfl, ⟨hs31, hF31, (by first | exact Or.inl ⟨hz, by omega⟩ | exact Or.inr ⟨hm, hbm, Or.inr ⟨by omega, by omega, by omega⟩⟩ | exact Or.inr ⟨hm, hbm, Or.inl ⟨by omega, by have h9 := congrArg Int32.toInt k31_0; omega, by omega⟩⟩), (by first | exact fun z hz9 => by rw [hz] at hz9; cases hz9 | exact fun z hz9 => by rw [hbm] at hz9; cases hz9; first | exact ⟨fun h9 => by exfalso; omega, fun _ => rw31⟩ | exact ⟨fun _ => rw31.frm (by omega), fun h9 => by exfalso; omega⟩), (by omega)⟩⟩
      · refine r_if_ne hC (tgt := 45) dX10_plan_36 (by decide) (fun c32 => ?_) (fun c32 => ?_)
        · exfalso; omega
        refine r_aload_n hC dX10_plan_39 0 rfl ?_
        refine r_iconst hC (v := (2)) dX10_plan_40 (by decide) (by decide) (fun x33_ e33 t33 => ?_)
        refine r_callV hC (As := [.int x33_]) (rest := []) (ci := 10) (c_X10_refused g (xL X) K len I6 J R hs6 a0 ka0 x33_) mT_5_85 mT_1_10 mT_5_82 mT_5_84 mP_48 okX10_refused ⟨by decide, by decide⟩ rfl (by show kO (K a0) = _; rw [ka0]; rfl) rfl rfl (Nat.le_of_ble_eq_true rfl) ⟨by decide, by decide⟩ dX10_plan_41 (aI1 (F := fun st M => P g X 3 44 [(0, .ref a0), (1, .int x1), (2, .int x2)] st _ _ M) (M := (K, len, I6, J, R)) fun x34_ I34 h34 => ?_)
        obtain ⟨hs34, hf34, k34_0, k34_1, k34_2⟩ := h34
        show P g X 3 44 [(0, .ref a0), (1, .int x1), (2, .int x2)] [.int x34_] _ _ (K, len, I34, J, R)
        have hF34 : Fr K [(10, 4), (11, 0), (11, 1), (11, 2), (72, 999), (73, 999)] I I34 := hF6.trans hf34 rfl rfl
        have rw34 := rw6.mv hcx qM_big hf34 rfl
        have hv4 : I34 hm 4 = F4 := (Eq.trans (hf34.get khm rfl) (Eq.trans (up2_kk eI6 ka0 khm (by decide)) eF4.symm))
        have hv4t : (I34 hm 4).toInt = F4.toInt := congrArg Int32.toInt hv4
        exact r_iret hC hQ hlk hr rfl (by decide) (by decide) dX10_plan_44 ⟨_, _, rfl, rfl, ⟨hs34, hF34, (by first | exact Or.inl ⟨hz, by omega⟩ | exact Or.inr ⟨hm, hbm, Or.inr ⟨by omega, by omega, by omega⟩⟩ | exact Or.inr ⟨hm, hbm, Or.inl ⟨by omega, by have h9 := congrArg Int32.toInt k34_0; omega, by omega⟩⟩), (by first | exact fun z hz9 => by rw [hz] at hz9; cases hz9 | exact fun z hz9 => by rw [hbm] at hz9; cases hz9; first | exact ⟨fun h9 => by exfalso; omega, fun _ => rw34⟩ | exact ⟨fun _ => rw34.frm (by omega), fun h9 => by exfalso; omega⟩), (by omega)⟩⟩
    · refine r_if_eq hC (tgt := 39) dX10_plan_25 (by decide) (fun c35 => ?_) (fun c35 => ?_)
      rotate_left
      · exfalso; omega
      refine r_aload_n hC dX10_plan_39 0 rfl ?_
      refine r_iconst hC (v := (2)) dX10_plan_40 (by decide) (by decide) (fun x36_ e36 t36 => ?_)
      refine r_callV hC (As := [.int x36_]) (rest := []) (ci := 10) (c_X10_refused g (xL X) K len I6 J R hs6 a0 ka0 x36_) mT_5_85 mT_1_10 mT_5_82 mT_5_84 mP_48 okX10_refused ⟨by decide, by decide⟩ rfl (by show kO (K a0) = _; rw [ka0]; rfl) rfl rfl (Nat.le_of_ble_eq_true rfl) ⟨by decide, by decide⟩ dX10_plan_41 (aI1 (F := fun st M => P g X 3 44 [(0, .ref a0), (1, .int x1), (2, .int x2)] st _ _ M) (M := (K, len, I6, J, R)) fun x37_ I37 h37 => ?_)
      obtain ⟨hs37, hf37, k37_0, k37_1, k37_2⟩ := h37
      show P g X 3 44 [(0, .ref a0), (1, .int x1), (2, .int x2)] [.int x37_] _ _ (K, len, I37, J, R)
      have hF37 : Fr K [(10, 4), (11, 0), (11, 1), (11, 2), (72, 999), (73, 999)] I I37 := hF6.trans hf37 rfl rfl
      have rw37 := rw6.mv hcx qM_big hf37 rfl
      have hv4 : I37 hm 4 = F4 := (Eq.trans (hf37.get khm rfl) (Eq.trans (up2_kk eI6 ka0 khm (by decide)) eF4.symm))
      have hv4t : (I37 hm 4).toInt = F4.toInt := congrArg Int32.toInt hv4
      exact r_iret hC hQ hlk hr rfl (by decide) (by decide) dX10_plan_44 ⟨_, _, rfl, rfl, ⟨hs37, hF37, (by first | exact Or.inl ⟨hz, by omega⟩ | exact Or.inr ⟨hm, hbm, Or.inr ⟨by omega, by omega, by omega⟩⟩ | exact Or.inr ⟨hm, hbm, Or.inl ⟨by omega, by have h9 := congrArg Int32.toInt k37_0; omega, by omega⟩⟩), (by first | exact fun z hz9 => by rw [hz] at hz9; cases hz9 | exact fun z hz9 => by rw [hbm] at hz9; cases hz9; first | exact ⟨fun h9 => by exfalso; omega, fun _ => rw37⟩ | exact ⟨fun _ => rw37.frm (by omega), fun h9 => by exfalso; omega⟩), (by omega)⟩⟩
set_option maxHeartbeats 4000000 in
set_option maxRecDepth 100000 in
theorem f_X10_undo (g : GG) (l : Launch) (K len : Nat → Nat) (I : Nat → Nat → Int32) (J : Nat → Nat → Int64) (R : Nat → Nat → Option Nat) (hs : Sf K len I R) (a0 : Nat) (ka0 : K a0 = 11) (D : DD) (hmx : ∀ hm, R a0 3 = some hm → RW (CM hm R) (cntN D) D I ∧ (I hm 4).toInt = D 0 4) : Ct g l yX10_undo cX10_undo 1 (Option.some Jvm.ClassFile.FieldType.boolean) rmX10_undo [.ref a0] (K, len, I, J, R) (pI1 (K, len, I, J, R) (fun r I' => Sf K len I' R ∧ Fr K [(10, 4), (11, 0), (11, 1), (11, 2)] I I' ∧ ((R a0 3 = none ∧ r.toInt = 0) ∨ (∃ hm, R a0 3 = some hm ∧ (((I hm 4).toInt ≠ (I hm 5).toInt ∧ r.toInt = 1 ∧ (I' hm 4).toInt = (I hm 4).toInt - 1) ∨ ((I hm 4).toInt = (I hm 5).toInt ∧ r.toInt = 0 ∧ (I' hm 4).toInt = (I hm 4).toInt)))) ∧ (∀ hm, R a0 3 = some hm → (((I hm 4).toInt ≠ (I hm 5).toInt) → RW (CM hm R) (cntN (upD D 0 4 (D 0 4 - 1))) (upD D 0 4 (D 0 4 - 1)) I') ∧ (¬ ((I hm 4).toInt ≠ (I hm 5).toInt) → RW (CM hm R) (cntN D) D I')) ∧ ((I' a0 2).toInt = -1))) := by
  refine Ct_intro (by decide +kernel) (Nat.le_of_ble_eq_true rfl) (fun X hC hL hKK hNm hr hlk hQ => ?_)
  subst hL
  have hC : Cx g X cX10_undo "HillTapModel" 1 rmX10_undo := hC
  show P g X 1 0 [(0, .ref a0)] [] 0 0 (K, len, I, J, R)
  have hF : Fr K [(10, 4), (11, 0), (11, 1), (11, 2)] I I := Fr.refl
  rcases hs.2.1.2.2.1 a0 ka0 with hz | ⟨hm, hbm, khm⟩
  · refine r_aload_n hC dX10_undo_0 0 rfl ?_
    refine r_iconst hC (v := (0)) dX10_undo_1 (by decide) (by decide) (fun x1_ e1 t1 => ?_)
    refine r_puti hC 0 (ci := 10) rfl u10_in tyX10_ok nmX10 (by decide) mT_4_235 rfl rfl rfl dX10_undo_2 ka0 rfl rfl (fun I2 eI2 => ?_)
    have hs2 := hs.put0 eI2 ka0 rfl rfl rfl (by decide)
    have hF2 := hF.put eI2 ka0 rfl
    refine r_aload_n hC dX10_undo_5 0 rfl ?_
    refine r_getz hC 3 (ci := 10) rfl u10_in (by decide) mT_4_238 dX10_undo_6 ka0 rfl rfl hz ?_
    refine r_ifnullN hC (tgt := 29) dX10_undo_9 (by decide) ?_
    refine r_aload_n hC dX10_undo_29 0 rfl ?_
    refine r_bipush hC (v := (6)) dX10_undo_30 (by decide) (by decide) (fun x3_ e3 t3 => ?_)
    refine r_callV hC (As := [.int x3_]) (rest := []) (ci := 10) (c_X10_refused g (xL X) K len I2 J R hs2 a0 ka0 x3_) mT_5_85 mT_1_10 mT_5_82 mT_5_84 mP_48 okX10_refused ⟨by decide, by decide⟩ rfl (by show kO (K a0) = _; rw [ka0]; rfl) rfl rfl (Nat.le_of_ble_eq_true rfl) ⟨by decide, by decide⟩ dX10_undo_32 (aI1 (F := fun st M => P g X 1 35 [(0, .ref a0)] st _ _ M) (M := (K, len, I2, J, R)) fun x4_ I4 h4 => ?_)
    obtain ⟨hs4, hf4, k4_0, k4_1, k4_2⟩ := h4
    show P g X 1 35 [(0, .ref a0)] [.int x4_] _ _ (K, len, I4, J, R)
    have hF4 : Fr K [(10, 4), (11, 0), (11, 1), (11, 2)] I I4 := hF2.trans hf4 rfl rfl
    refine r_pop hC dX10_undo_35 rfl ?_
    refine r_iconst hC (v := (0)) dX10_undo_36 (by decide) (by decide) (fun x5_ e5 t5 => ?_)
    exact r_iret hC hQ hlk hr (by rw [e5]; rfl) (by decide) (by decide) dX10_undo_37 ⟨_, _, rfl, rfl, ⟨hs4, hF4, (by first | exact Or.inl ⟨hz, by omega⟩ | exact Or.inr ⟨hm, hbm, Or.inr ⟨by omega, by omega, by omega⟩⟩ | exact Or.inr ⟨hm, hbm, Or.inl ⟨by omega, by omega, by omega⟩⟩), (by first | exact fun z hz9 => by rw [hz] at hz9; cases hz9 | exact fun z hz9 => by rw [hbm] at hz9; cases hz9; first | exact ⟨fun h9 => by exfalso; omega, fun _ => NOrwd⟩ | exact ⟨fun _ => NOrwd.und, fun h9 => by exfalso; omega⟩), (by omega)⟩⟩
  · obtain ⟨S0, eS0⟩ : ∃ z : Int32, z = I hm 7 := ⟨_, rfl⟩
    have fS0 : S0.toInt = (I hm 7).toInt := by rw [eS0]
    have rS0 := hs.rng khm rfl eS0
    obtain ⟨F4, eF4⟩ : ∃ z : Int32, z = I hm 4 := ⟨_, rfl⟩
    have fF4 : F4.toInt = (I hm 4).toInt := by rw [eF4]
    have rF4 := hs.rng khm rfl eF4
    obtain ⟨T5, eT5⟩ : ∃ z : Int32, z = I hm 5 := ⟨_, rfl⟩
    have fT5 : T5.toInt = (I hm 5).toInt := by rw [eT5]
    have rT5 := hs.rng khm rfl eT5
    obtain ⟨rwd, hdx⟩ := hmx hm hbm
    have hcx := CM_x hs khm
    refine r_aload_n hC dX10_undo_0 0 rfl ?_
    refine r_iconst hC (v := (0)) dX10_undo_1 (by decide) (by decide) (fun x6_ e6 t6 => ?_)
    refine r_puti hC 0 (ci := 10) rfl u10_in tyX10_ok nmX10 (by decide) mT_4_235 rfl rfl rfl dX10_undo_2 ka0 rfl rfl (fun I7 eI7 => ?_)
    have hs7 := hs.put0 eI7 ka0 rfl rfl rfl (by decide)
    have hF7 := hF.put eI7 ka0 rfl
    have rw7 := rwd.putO hcx eI7 ka0 rfl
    refine r_aload_n hC dX10_undo_5 0 rfl ?_
    refine r_getr hC 3 (ci := 10) rfl u10_in (by decide) mT_4_238 dX10_undo_6 ka0 rfl rfl hbm ?_
    refine r_ifnull hC dX10_undo_9 ?_
    refine r_aload_n hC dX10_undo_12 0 rfl ?_
    refine r_getr hC 3 (ci := 10) rfl u10_in (by decide) mT_4_238 dX10_undo_13 ka0 rfl rfl hbm ?_
    refine r_getiN hC 4 (ci := 9) rfl u9_in (by decide) nF_4 dX10_undo_16 khm rfl rfl (fun x8_ e8 => ?_)
    have r8 := hs7.rng khm rfl e8
    have f8 : x8_.toInt = (I7 hm 4).toInt := by rw [e8]
    have w8 : x8_ = F4 := by rw [e8]; exact (Eq.trans (up2_kk eI7 ka0 khm (by decide)) eF4.symm)
    have wt8 : x8_.toInt = F4.toInt := by rw [w8]
    refine r_aload_n hC dX10_undo_19 0 rfl ?_
    refine r_getr hC 3 (ci := 10) rfl u10_in (by decide) mT_4_238 dX10_undo_20 ka0 rfl rfl hbm ?_
    refine r_getiN hC 5 (ci := 9) rfl u9_in (by decide) nF_5 dX10_undo_23 khm rfl rfl (fun x9_ e9 => ?_)
    have r9 := hs7.rng khm rfl e9
    have f9 : x9_.toInt = (I7 hm 5).toInt := by rw [e9]
    have w9 : x9_ = T5 := by rw [e9]; exact (Eq.trans (up2_kk eI7 ka0 khm (by decide)) eT5.symm)
    have wt9 : x9_.toInt = T5.toInt := by rw [w9]
    refine r_icmp_ne hC (tgt := 38) dX10_undo_26 (by decide) (fun c10 => ?_) (fun c10 => ?_)
    · refine r_aload_n hC dX10_undo_38 0 rfl ?_
      refine r_getr hC 3 (ci := 10) rfl u10_in (by decide) mT_4_238 dX10_undo_39 ka0 rfl rfl hbm ?_
      refine r_dup hC dX10_undo_42 rfl ?_
      refine r_getiN hC 4 (ci := 9) rfl u9_in (by decide) nF_4 dX10_undo_43 khm rfl rfl (fun x11_ e11 => ?_)
      have r11 := hs7.rng khm rfl e11
      have f11 : x11_.toInt = (I7 hm 4).toInt := by rw [e11]
      have w11 : x11_ = x8_ := by rw [e11]; exact e8.symm
      have wt11 : x11_.toInt = x8_.toInt := by rw [w11]
      refine r_iconst hC (v := (1)) dX10_undo_46 (by decide) (by decide) (fun x12_ e12 t12 => ?_)
      refine r_isub hC dX10_undo_47 (fun x13_ e13 => ?_)
      try have t13 : x13_.toInt = x11_.toInt - x12_.toInt := by rw [e13]; exact ti_sub (by omega) (by omega)
      refine r_putiN hC 4 (ci := 9) rfl u9_in tyX9_ok nmX9 (by decide) nF_4 rfl rfl rfl dX10_undo_48 khm rfl rfl (fun I14 eI14 => ?_)
      have hs14 : Sf K len I14 R := hs7.putA4 eI14 khm (by have h9 := hs7.told khm; omega) (by omega) (by have h9 := hs7.told khm; omega)
      have hF14 := hF7.put eI14 khm rfl
      have rw14 := rw7.putO hcx eI14 khm rfl
      refine r_aload_n hC dX10_undo_51 0 rfl ?_
      refine r_iconst hC (v := (0)) dX10_undo_52 (by decide) (by decide) (fun x15_ e15 t15 => ?_)
      refine r_callV hC (As := [.int x15_]) (rest := []) (ci := 10) (c_X10_done g (xL X) K len I14 J R hs14 a0 ka0 x15_) mT_6_79 mT_1_10 mT_6_76 mT_6_78 mP_67 okX10_done ⟨by decide, by decide⟩ rfl (by show kO (K a0) = _; rw [ka0]; rfl) rfl rfl (Nat.le_of_ble_eq_true rfl) ⟨by decide, by decide⟩ dX10_undo_53 (aI1 (F := fun st M => P g X 1 56 [(0, .ref a0)] st _ _ M) (M := (K, len, I14, J, R)) fun x16_ I16 h16 => ?_)
      obtain ⟨hs16, hf16, k16_0, k16_1, k16_2⟩ := h16
      show P g X 1 56 [(0, .ref a0)] [.int x16_] _ _ (K, len, I16, J, R)
      have hF16 : Fr K [(10, 4), (11, 0), (11, 1), (11, 2)] I I16 := hF14.trans hf16 rfl rfl
      have rw16 := rw14.mv hcx qM_big hf16 rfl
      refine r_pop hC dX10_undo_56 rfl ?_
      refine r_iconst hC (v := (1)) dX10_undo_57 (by decide) (by decide) (fun x17_ e17 t17 => ?_)
      have hv4 : I16 hm 4 = x13_ := (Eq.trans (hf16.get khm rfl) (by rw [eI14]; exact up2_self _ _ _ _))
      have hv4t : (I16 hm 4).toInt = x13_.toInt := congrArg Int32.toInt hv4
      exact r_iret hC hQ hlk hr (by rw [e17]; rfl) (by decide) (by decide) dX10_undo_58 ⟨_, _, rfl, rfl, ⟨hs16, hF16, (by first | exact Or.inl ⟨hz, by omega⟩ | exact Or.inr ⟨hm, hbm, Or.inr ⟨by omega, by omega, by omega⟩⟩ | exact Or.inr ⟨hm, hbm, Or.inl ⟨by omega, by omega, by omega⟩⟩), (by first | exact fun z hz9 => by rw [hz] at hz9; cases hz9 | exact fun z hz9 => by rw [hbm] at hz9; cases hz9; first | exact ⟨fun h9 => by exfalso; omega, fun _ => rw16⟩ | exact ⟨fun _ => rw16.und, fun h9 => by exfalso; omega⟩), (by omega)⟩⟩
    · refine r_aload_n hC dX10_undo_29 0 rfl ?_
      refine r_bipush hC (v := (6)) dX10_undo_30 (by decide) (by decide) (fun x18_ e18 t18 => ?_)
      refine r_callV hC (As := [.int x18_]) (rest := []) (ci := 10) (c_X10_refused g (xL X) K len I7 J R hs7 a0 ka0 x18_) mT_5_85 mT_1_10 mT_5_82 mT_5_84 mP_48 okX10_refused ⟨by decide, by decide⟩ rfl (by show kO (K a0) = _; rw [ka0]; rfl) rfl rfl (Nat.le_of_ble_eq_true rfl) ⟨by decide, by decide⟩ dX10_undo_32 (aI1 (F := fun st M => P g X 1 35 [(0, .ref a0)] st _ _ M) (M := (K, len, I7, J, R)) fun x19_ I19 h19 => ?_)
      obtain ⟨hs19, hf19, k19_0, k19_1, k19_2⟩ := h19
      show P g X 1 35 [(0, .ref a0)] [.int x19_] _ _ (K, len, I19, J, R)
      have hF19 : Fr K [(10, 4), (11, 0), (11, 1), (11, 2)] I I19 := hF7.trans hf19 rfl rfl
      have rw19 := rw7.mv hcx qM_big hf19 rfl
      refine r_pop hC dX10_undo_35 rfl ?_
      refine r_iconst hC (v := (0)) dX10_undo_36 (by decide) (by decide) (fun x20_ e20 t20 => ?_)
      have hv4 : I19 hm 4 = x8_ := (Eq.trans (hf19.get khm rfl) e8.symm)
      have hv4t : (I19 hm 4).toInt = x8_.toInt := congrArg Int32.toInt hv4
      exact r_iret hC hQ hlk hr (by rw [e20]; rfl) (by decide) (by decide) dX10_undo_37 ⟨_, _, rfl, rfl, ⟨hs19, hF19, (by first | exact Or.inl ⟨hz, by omega⟩ | exact Or.inr ⟨hm, hbm, Or.inr ⟨by omega, by omega, by omega⟩⟩ | exact Or.inr ⟨hm, hbm, Or.inl ⟨by omega, by omega, by omega⟩⟩), (by first | exact fun z hz9 => by rw [hz] at hz9; cases hz9 | exact fun z hz9 => by rw [hbm] at hz9; cases hz9; first | exact ⟨fun h9 => by exfalso; omega, fun _ => rw19⟩ | exact ⟨fun _ => rw19.und, fun h9 => by exfalso; omega⟩), (by omega)⟩⟩
set_option maxHeartbeats 4000000 in
set_option maxRecDepth 100000 in
theorem f_X10_read (g : GG) (l : Launch) (K len : Nat → Nat) (I : Nat → Nat → Int32) (J : Nat → Nat → Int64) (R : Nat → Nat → Option Nat) (hs : Sf K len I R) (a0 : Nat) (ka0 : K a0 = 11) (x1 : Int32) (x2 : Int32) (x3 : Int32) (x4 : Int32) : Ct g l yX10_read cX10_read 5 (Option.some Jvm.ClassFile.FieldType.int) rmX10_read [.ref a0, .int x1, .int x2, .int x3, .int x4] (K, len, I, J, R) (pI1 (K, len, I, J, R) (fun r I' => Sf K len I' R ∧ Fr K [(11, 0), (11, 1), (11, 2), (11, 20), (89, 999), (90, 999), (91, 999), (92, 999)] I I' ∧ ((R a0 3 = none ∧ r.toInt = -1 ∧ (I' a0 20).toInt = (I a0 20).toInt) ∨ (∃ hm, R a0 3 = some hm ∧ (((0 ≤ x1.toInt ∧ x1.toInt < (I hm 3).toInt ∧ 0 ≤ x2.toInt ∧ x2.toInt ≤ 59 ∧ 0 ≤ x3.toInt ∧ x3.toInt ≤ 99999 ∧ 0 ≤ x4.toInt ∧ x4.toInt ≤ 999 ∧ (I a0 20).toInt < 24) ∧ r.toInt = (I a0 20).toInt + 1 ∧ (I' a0 20).toInt = (I a0 20).toInt + 1) ∨ (¬ (0 ≤ x1.toInt ∧ x1.toInt < (I hm 3).toInt ∧ 0 ≤ x2.toInt ∧ x2.toInt ≤ 59 ∧ 0 ≤ x3.toInt ∧ x3.toInt ≤ 99999 ∧ 0 ≤ x4.toInt ∧ x4.toInt ≤ 999 ∧ (I a0 20).toInt < 24) ∧ r.toInt = -1 ∧ (I' a0 20).toInt = (I a0 20).toInt)))) ∧ ((I' a0 2).toInt = -1))) := by
  refine Ct_intro (by decide +kernel) (Nat.le_of_ble_eq_true rfl) (fun X hC hL hKK hNm hr hlk hQ => ?_)
  subst hL
  have hC : Cx g X cX10_read "HillTapModel" 5 rmX10_read := hC
  show P g X 5 0 [(0, .ref a0), (1, .int x1), (2, .int x2), (3, .int x3), (4, .int x4)] [] 0 0 (K, len, I, J, R)
  have hF : Fr K [(11, 0), (11, 1), (11, 2), (11, 20), (89, 999), (90, 999), (91, 999), (92, 999)] I I := Fr.refl
  have b_x1 := ti_rng x1
  have b_x2 := ti_rng x2
  have b_x3 := ti_rng x3
  have b_x4 := ti_rng x4
  obtain ⟨C0, eC0⟩ : ∃ z : Int32, z = I a0 20 := ⟨_, rfl⟩
  have fC0 : C0.toInt = (I a0 20).toInt := by rw [eC0]
  have rC0 := hs.rng ka0 rfl eC0
  rcases hs.2.1.2.2.1 a0 ka0 with hz | ⟨hm, hbm, khm⟩
  · refine r_aload_n hC dX10_read_0 0 rfl ?_
    refine r_iconst hC (v := (0)) dX10_read_1 (by decide) (by decide) (fun x1_ e1 t1 => ?_)
    refine r_puti hC 0 (ci := 10) rfl u10_in tyX10_ok nmX10 (by decide) mT_4_235 rfl rfl rfl dX10_read_2 ka0 rfl rfl (fun I2 eI2 => ?_)
    have hs2 := hs.put0 eI2 ka0 rfl rfl rfl (by decide)
    have hF2 := hF.put eI2 ka0 rfl
    refine r_aload_n hC dX10_read_5 0 rfl ?_
    refine r_iload_n hC dX10_read_6 1 rfl ?_
    refine r_callV hC (As := [.int x1]) (rest := []) (ci := 10) (f_X10_isPeg g (xL X) K len I2 J R hs2 a0 ka0 x1) mT_6_123 mT_1_10 mT_6_120 mT_6_122 mP_72 okX10_isPeg ⟨by decide, by decide⟩ rfl (by show kO (K a0) = _; rw [ka0]; rfl) rfl rfl (Nat.le_of_ble_eq_true rfl) ⟨by decide, by decide⟩ dX10_read_7 (aI0 (F := fun st M => P g X 5 10 [(0, .ref a0), (1, .int x1), (2, .int x2), (3, .int x3), (4, .int x4)] st _ _ M) (M := (K, len, I2, J, R)) fun x3_ h3 => ?_)
    have k3_0 := h3
    clear h3
    show P g X 5 10 [(0, .ref a0), (1, .int x1), (2, .int x2), (3, .int x3), (4, .int x4)] [.int x3_] _ _ (K, len, I2, J, R)
    have kq3 : x3_.toInt = 0 := by rcases k3_0 with ⟨z, y⟩ | ⟨hm9, z, y⟩; exact y; rw [hz] at z; cases z
    clear k3_0
    refine r_if_eq hC (tgt := 21) dX10_read_10 (by decide) (fun c4 => ?_) (fun c4 => ?_)
    rotate_left
    · exfalso; omega
    refine r_aload_n hC dX10_read_21 0 rfl ?_
    refine r_iconst hC (v := (1)) dX10_read_22 (by decide) (by decide) (fun x5_ e5 t5 => ?_)
    refine r_callV hC (As := [.int x5_]) (rest := []) (ci := 10) (c_X10_refused g (xL X) K len I2 J R hs2 a0 ka0 x5_) mT_5_85 mT_1_10 mT_5_82 mT_5_84 mP_48 okX10_refused ⟨by decide, by decide⟩ rfl (by show kO (K a0) = _; rw [ka0]; rfl) rfl rfl (Nat.le_of_ble_eq_true rfl) ⟨by decide, by decide⟩ dX10_read_23 (aI1 (F := fun st M => P g X 5 26 [(0, .ref a0), (1, .int x1), (2, .int x2), (3, .int x3), (4, .int x4)] st _ _ M) (M := (K, len, I2, J, R)) fun x6_ I6 h6 => ?_)
    obtain ⟨hs6, hf6, k6_0, k6_1, k6_2⟩ := h6
    show P g X 5 26 [(0, .ref a0), (1, .int x1), (2, .int x2), (3, .int x3), (4, .int x4)] [.int x6_] _ _ (K, len, I6, J, R)
    have hF6 : Fr K [(11, 0), (11, 1), (11, 2), (11, 20), (89, 999), (90, 999), (91, 999), (92, 999)] I I6 := hF2.trans hf6 rfl rfl
    have hv20 : I6 a0 20 = C0 := (Eq.trans (hf6.get ka0 rfl) (Eq.trans (up2_at (Or.inr (by decide)) eI2) eC0.symm))
    have hv20t : (I6 a0 20).toInt = C0.toInt := congrArg Int32.toInt hv20
    exact r_iret hC hQ hlk hr rfl (by decide) (by decide) dX10_read_26 ⟨_, _, rfl, rfl, ⟨hs6, hF6, (by first | exact Or.inl ⟨hz, by omega, by omega⟩ | exact Or.inr ⟨hm, hbm, Or.inr ⟨by omega, by omega, by omega⟩⟩ | exact Or.inr ⟨hm, hbm, Or.inl ⟨by omega, by have h9 := congrArg Int32.toInt k6_0; omega, by omega⟩⟩), (by omega)⟩⟩
  · obtain ⟨S0, eS0⟩ : ∃ z : Int32, z = I hm 7 := ⟨_, rfl⟩
    have fS0 : S0.toInt = (I hm 7).toInt := by rw [eS0]
    have rS0 := hs.rng khm rfl eS0
    obtain ⟨P3, eP3⟩ : ∃ z : Int32, z = I hm 3 := ⟨_, rfl⟩
    have fP3 : P3.toInt = (I hm 3).toInt := by rw [eP3]
    have rP3 := hs.rng khm rfl eP3
    refine r_aload_n hC dX10_read_0 0 rfl ?_
    refine r_iconst hC (v := (0)) dX10_read_1 (by decide) (by decide) (fun x7_ e7 t7 => ?_)
    refine r_puti hC 0 (ci := 10) rfl u10_in tyX10_ok nmX10 (by decide) mT_4_235 rfl rfl rfl dX10_read_2 ka0 rfl rfl (fun I8 eI8 => ?_)
    have hs8 := hs.put0 eI8 ka0 rfl rfl rfl (by decide)
    have hF8 := hF.put eI8 ka0 rfl
    refine r_aload_n hC dX10_read_5 0 rfl ?_
    refine r_iload_n hC dX10_read_6 1 rfl ?_
    refine r_callV hC (As := [.int x1]) (rest := []) (ci := 10) (f_X10_isPeg g (xL X) K len I8 J R hs8 a0 ka0 x1) mT_6_123 mT_1_10 mT_6_120 mT_6_122 mP_72 okX10_isPeg ⟨by decide, by decide⟩ rfl (by show kO (K a0) = _; rw [ka0]; rfl) rfl rfl (Nat.le_of_ble_eq_true rfl) ⟨by decide, by decide⟩ dX10_read_7 (aI0 (F := fun st M => P g X 5 10 [(0, .ref a0), (1, .int x1), (2, .int x2), (3, .int x3), (4, .int x4)] st _ _ M) (M := (K, len, I8, J, R)) fun x9_ h9 => ?_)
    have k9_0 := h9
    clear h9
    show P g X 5 10 [(0, .ref a0), (1, .int x1), (2, .int x2), (3, .int x3), (4, .int x4)] [.int x9_] _ _ (K, len, I8, J, R)
    have kq9 : x9_.toInt = 1 ∧ (0 ≤ x1.toInt ∧ x1.toInt < (I8 hm 3).toInt) ∨ x9_.toInt = 0 ∧ ¬ (0 ≤ x1.toInt ∧ x1.toInt < (I8 hm 3).toInt) := by rcases k9_0 with ⟨z, -⟩ | ⟨hm9, z, y⟩ <;> rw [hbm] at z <;> cases z; exact y
    have rq3_ : I8 hm 3 = P3 := (Eq.trans (up2_kk eI8 ka0 khm (by decide)) eP3.symm)
    have rq3_t : (I8 hm 3).toInt = P3.toInt := congrArg Int32.toInt rq3_
    clear k9_0
    refine r_if_eq hC (tgt := 21) dX10_read_10 (by decide) (fun c10 => ?_) (fun c10 => ?_)
    · refine r_aload_n hC dX10_read_21 0 rfl ?_
      refine r_iconst hC (v := (1)) dX10_read_22 (by decide) (by decide) (fun x11_ e11 t11 => ?_)
      refine r_callV hC (As := [.int x11_]) (rest := []) (ci := 10) (c_X10_refused g (xL X) K len I8 J R hs8 a0 ka0 x11_) mT_5_85 mT_1_10 mT_5_82 mT_5_84 mP_48 okX10_refused ⟨by decide, by decide⟩ rfl (by show kO (K a0) = _; rw [ka0]; rfl) rfl rfl (Nat.le_of_ble_eq_true rfl) ⟨by decide, by decide⟩ dX10_read_23 (aI1 (F := fun st M => P g X 5 26 [(0, .ref a0), (1, .int x1), (2, .int x2), (3, .int x3), (4, .int x4)] st _ _ M) (M := (K, len, I8, J, R)) fun x12_ I12 h12 => ?_)
      obtain ⟨hs12, hf12, k12_0, k12_1, k12_2⟩ := h12
      show P g X 5 26 [(0, .ref a0), (1, .int x1), (2, .int x2), (3, .int x3), (4, .int x4)] [.int x12_] _ _ (K, len, I12, J, R)
      have hF12 : Fr K [(11, 0), (11, 1), (11, 2), (11, 20), (89, 999), (90, 999), (91, 999), (92, 999)] I I12 := hF8.trans hf12 rfl rfl
      have hv20 : I12 a0 20 = C0 := (Eq.trans (hf12.get ka0 rfl) (Eq.trans (up2_at (Or.inr (by decide)) eI8) eC0.symm))
      have hv20t : (I12 a0 20).toInt = C0.toInt := congrArg Int32.toInt hv20
      exact r_iret hC hQ hlk hr rfl (by decide) (by decide) dX10_read_26 ⟨_, _, rfl, rfl, ⟨hs12, hF12, (by first | exact Or.inl ⟨hz, by omega, by omega⟩ | exact Or.inr ⟨hm, hbm, Or.inr ⟨by omega, by omega, by omega⟩⟩ | exact Or.inr ⟨hm, hbm, Or.inl ⟨by omega, by have h9 := congrArg Int32.toInt k12_0; omega, by omega⟩⟩), (by omega)⟩⟩
    · refine r_aload_n hC dX10_read_13 0 rfl ?_
      refine r_iload_n hC dX10_read_14 2 rfl ?_
      refine r_callV hC (As := [.int x2]) (rest := []) (ci := 10) (f_X10_isDay g (xL X) K len I8 J R hs8 a0 ka0 x2) mT_6_95 mT_1_10 mT_6_92 mT_6_94 mP_68 okX10_isDay ⟨by decide, by decide⟩ rfl (by show kO (K a0) = _; rw [ka0]; rfl) rfl rfl (Nat.le_of_ble_eq_true rfl) ⟨by decide, by decide⟩ dX10_read_15 (aI0 (F := fun st M => P g X 5 18 [(0, .ref a0), (1, .int x1), (2, .int x2), (3, .int x3), (4, .int x4)] st _ _ M) (M := (K, len, I8, J, R)) fun x13_ h13 => ?_)
      have k13_0 := h13
      clear h13
      show P g X 5 18 [(0, .ref a0), (1, .int x1), (2, .int x2), (3, .int x3), (4, .int x4)] [.int x13_] _ _ (K, len, I8, J, R)
      have kq13 : x13_.toInt = 1 ∧ (0 ≤ x2.toInt ∧ x2.toInt ≤ 59) ∨ x13_.toInt = 0 ∧ ¬ (0 ≤ x2.toInt ∧ x2.toInt ≤ 59) := by rcases k13_0 with ⟨z, -⟩ | ⟨hm9, z, y⟩ <;> rw [hbm] at z <;> cases z; exact y
      have rq3_ : I8 hm 3 = P3 := (Eq.trans (up2_kk eI8 ka0 khm (by decide)) eP3.symm)
      have rq3_t : (I8 hm 3).toInt = P3.toInt := congrArg Int32.toInt rq3_
      clear k13_0
      refine r_if_ne hC (tgt := 27) dX10_read_18 (by decide) (fun c14 => ?_) (fun c14 => ?_)
      · refine r_iload_n hC dX10_read_27 3 rfl ?_
        refine r_iconst hC (v := (0)) dX10_read_28 (by decide) (by decide) (fun x15_ e15 t15 => ?_)
        refine r_ldcw hC (n := 99999) (v := 99999) mT_6_172 dX10_read_29 (by decide) (fun x16_ e16 t16 => ?_)
        refine r_callS hC (As := [.int x3, .int x15_, .int x16_]) (rest := []) (f_X10_in g (xL X) K len I8 J R hs8 x3 x15_ x16_) mT_6_8 mT_1_10 mT_6_6 mT_6_7 okX10_in ⟨by decide, by decide⟩ rfl rfl (Nat.le_of_ble_eq_true rfl) ⟨by decide, by decide⟩ dX10_read_32 (aI0 (F := fun st M => P g X 5 35 [(0, .ref a0), (1, .int x1), (2, .int x2), (3, .int x3), (4, .int x4)] st _ _ M) (M := (K, len, I8, J, R)) fun x17_ h17 => ?_)
        have k17_0 := h17
        clear h17
        show P g X 5 35 [(0, .ref a0), (1, .int x1), (2, .int x2), (3, .int x3), (4, .int x4)] [.int x17_] _ _ (K, len, I8, J, R)
        rcases k17_0 with ⟨hr17, hw17⟩ | ⟨hr17, hw17⟩
        · refine r_if_eq hC (tgt := 50) dX10_read_35 (by decide) (fun c18 => ?_) (fun c18 => ?_)
          · exfalso; omega
          refine r_iload hC dX10_read_38 4 rfl ?_
          refine r_iconst hC (v := (0)) dX10_read_40 (by decide) (by decide) (fun x19_ e19 t19 => ?_)
          refine r_sipush hC (v := (999)) dX10_read_41 (by decide) (by decide) (fun x20_ e20 t20 => ?_)
          refine r_callS hC (As := [.int x4, .int x19_, .int x20_]) (rest := []) (f_X10_in g (xL X) K len I8 J R hs8 x4 x19_ x20_) mT_6_8 mT_1_10 mT_6_6 mT_6_7 okX10_in ⟨by decide, by decide⟩ rfl rfl (Nat.le_of_ble_eq_true rfl) ⟨by decide, by decide⟩ dX10_read_44 (aI0 (F := fun st M => P g X 5 47 [(0, .ref a0), (1, .int x1), (2, .int x2), (3, .int x3), (4, .int x4)] st _ _ M) (M := (K, len, I8, J, R)) fun x21_ h21 => ?_)
          have k21_0 := h21
          clear h21
          show P g X 5 47 [(0, .ref a0), (1, .int x1), (2, .int x2), (3, .int x3), (4, .int x4)] [.int x21_] _ _ (K, len, I8, J, R)
          rcases k21_0 with ⟨hr21, hw21⟩ | ⟨hr21, hw21⟩
          · refine r_if_ne hC (tgt := 56) dX10_read_47 (by decide) (fun c22 => ?_) (fun c22 => ?_)
            rotate_left
            · exfalso; omega
            refine r_aload_n hC dX10_read_56 0 rfl ?_
            refine r_geti hC 20 (ci := 10) rfl u10_in (by decide) mT_5_15 dX10_read_57 ka0 rfl rfl (fun x23_ e23 => ?_)
            have r23 := hs8.rng ka0 rfl e23
            have f23 : x23_.toInt = (I8 a0 20).toInt := by rw [e23]
            have w23 : x23_ = C0 := by rw [e23]; exact (Eq.trans (up2_at (Or.inr (by decide)) eI8) eC0.symm)
            have wt23 : x23_.toInt = C0.toInt := by rw [w23]
            refine r_bipush hC (v := (24)) dX10_read_60 (by decide) (by decide) (fun x24_ e24 t24 => ?_)
            refine r_icmp_ne hC (tgt := 71) dX10_read_62 (by decide) (fun c25 => ?_) (fun c25 => ?_)
            · refine r_aload_n hC dX10_read_71 0 rfl ?_
              obtain ⟨a26_, hb26, hk26, hn26⟩ := hs8.row ka0 21 89 24 (by decide) (by decide)
              refine r_getr hC 21 (ci := 10) rfl u10_in (by decide) mT_5_16 dX10_read_72 ka0 rfl rfl hb26 ?_
              refine r_aload_n hC dX10_read_75 0 rfl ?_
              refine r_geti hC 20 (ci := 10) rfl u10_in (by decide) mT_5_15 dX10_read_76 ka0 rfl rfl (fun x27_ e27 => ?_)
              have r27 := hs8.rng ka0 rfl e27
              have f27 : x27_.toInt = (I8 a0 20).toInt := by rw [e27]
              have w27 : x27_ = x23_ := by rw [e27]; exact e23.symm
              have wt27 : x27_.toInt = x23_.toInt := by rw [w27]
              refine r_iload_n hC dX10_read_79 1 rfl ?_
              refine x_iastore hC hk26 hn26 (by decide) rfl rfl dX10_read_80 (by omega) (by omega) (fun I28 eI28 => ?_)
              have hs28 := hs8.putA eI28 hk26 rfl (by omega) (by omega) (rng_arr (by decide)) (xF_arr (by decide)) (by decide)
              have hF28 := hF8.put eI28 hk26 (inS_arr rfl _)
              refine r_aload_n hC dX10_read_81 0 rfl ?_
              obtain ⟨a29_, hb29, hk29, hn29⟩ := hs28.row ka0 22 90 24 (by decide) (by decide)
              refine r_getr hC 22 (ci := 10) rfl u10_in (by decide) mT_5_17 dX10_read_82 ka0 rfl rfl hb29 ?_
              refine r_aload_n hC dX10_read_85 0 rfl ?_
              refine r_geti hC 20 (ci := 10) rfl u10_in (by decide) mT_5_15 dX10_read_86 ka0 rfl rfl (fun x30_ e30 => ?_)
              have r30 := hs28.rng ka0 rfl e30
              have f30 : x30_.toInt = (I28 a0 20).toInt := by rw [e30]
              have w30 : x30_ = x27_ := by rw [e30]; exact (Eq.trans (up2_kk eI28 hk26 ka0 (by decide)) e27.symm)
              have wt30 : x30_.toInt = x27_.toInt := by rw [w30]
              refine r_iload_n hC dX10_read_89 2 rfl ?_
              refine x_iastore hC hk29 hn29 (by decide) rfl rfl dX10_read_90 (by omega) (by omega) (fun I31 eI31 => ?_)
              have hs31 := hs28.putA eI31 hk29 rfl (by omega) (by omega) (rng_arr (by decide)) (xF_arr (by decide)) (by decide)
              have hF31 := hF28.put eI31 hk29 (inS_arr rfl _)
              refine r_aload_n hC dX10_read_91 0 rfl ?_
              obtain ⟨a32_, hb32, hk32, hn32⟩ := hs31.row ka0 23 91 24 (by decide) (by decide)
              refine r_getr hC 23 (ci := 10) rfl u10_in (by decide) mT_5_18 dX10_read_92 ka0 rfl rfl hb32 ?_
              refine r_aload_n hC dX10_read_95 0 rfl ?_
              refine r_geti hC 20 (ci := 10) rfl u10_in (by decide) mT_5_15 dX10_read_96 ka0 rfl rfl (fun x33_ e33 => ?_)
              have r33 := hs31.rng ka0 rfl e33
              have f33 : x33_.toInt = (I31 a0 20).toInt := by rw [e33]
              have w33 : x33_ = x30_ := by rw [e33]; exact (Eq.trans (up2_kk eI31 hk29 ka0 (by decide)) e30.symm)
              have wt33 : x33_.toInt = x30_.toInt := by rw [w33]
              refine r_iload_n hC dX10_read_99 3 rfl ?_
              refine x_iastore hC hk32 hn32 (by decide) rfl rfl dX10_read_100 (by omega) (by omega) (fun I34 eI34 => ?_)
              have hs34 := hs31.put0 eI34 hk32 (rng_arr (by decide) _) rfl (xF_arr (by decide) _) (by decide)
              have hF34 := hF31.put eI34 hk32 (inS_arr rfl _)
              refine r_aload_n hC dX10_read_101 0 rfl ?_
              obtain ⟨a35_, hb35, hk35, hn35⟩ := hs34.row ka0 24 92 24 (by decide) (by decide)
              refine r_getr hC 24 (ci := 10) rfl u10_in (by decide) mT_5_19 dX10_read_102 ka0 rfl rfl hb35 ?_
              refine r_aload_n hC dX10_read_105 0 rfl ?_
              refine r_geti hC 20 (ci := 10) rfl u10_in (by decide) mT_5_15 dX10_read_106 ka0 rfl rfl (fun x36_ e36 => ?_)
              have r36 := hs34.rng ka0 rfl e36
              have f36 : x36_.toInt = (I34 a0 20).toInt := by rw [e36]
              have w36 : x36_ = x33_ := by rw [e36]; exact (Eq.trans (up2_kk eI34 hk32 ka0 (by decide)) e33.symm)
              have wt36 : x36_.toInt = x33_.toInt := by rw [w36]
              refine r_iload hC dX10_read_109 4 rfl ?_
              refine x_iastore hC hk35 hn35 (by decide) rfl rfl dX10_read_111 (by omega) (by omega) (fun I37 eI37 => ?_)
              have hs37 := hs34.put0 eI37 hk35 (rng_arr (by decide) _) rfl (xF_arr (by decide) _) (by decide)
              have hF37 := hF34.put eI37 hk35 (inS_arr rfl _)
              refine r_aload_n hC dX10_read_112 0 rfl ?_
              refine r_dup hC dX10_read_113 rfl ?_
              refine r_geti hC 20 (ci := 10) rfl u10_in (by decide) mT_5_15 dX10_read_114 ka0 rfl rfl (fun x38_ e38 => ?_)
              have r38 := hs37.rng ka0 rfl e38
              have f38 : x38_.toInt = (I37 a0 20).toInt := by rw [e38]
              have w38 : x38_ = x36_ := by rw [e38]; exact (Eq.trans (up2_kk eI37 hk35 ka0 (by decide)) e36.symm)
              have wt38 : x38_.toInt = x36_.toInt := by rw [w38]
              refine r_iconst hC (v := (1)) dX10_read_117 (by decide) (by decide) (fun x39_ e39 t39 => ?_)
              refine r_iadd hC dX10_read_118 (fun x40_ e40 => ?_)
              try have t40 : x40_.toInt = x38_.toInt + x39_.toInt := by rw [e40]; exact ti_add (by omega) (by omega)
              refine r_puti hC 20 (ci := 10) rfl u10_in tyX10_ok nmX10 (by decide) mT_5_15 rfl rfl rfl dX10_read_119 ka0 rfl rfl (fun I41 eI41 => ?_)
              have hs41 := hs37.put1 eI41 ka0 rfl (by omega) (by omega) rfl rfl (by decide)
              have hF41 := hF37.put eI41 ka0 rfl
              refine r_aload_n hC dX10_read_122 0 rfl ?_
              refine r_aload_n hC dX10_read_123 0 rfl ?_
              refine r_geti hC 20 (ci := 10) rfl u10_in (by decide) mT_5_15 dX10_read_124 ka0 rfl rfl (fun x42_ e42 => ?_)
              have r42 := hs41.rng ka0 rfl e42
              have f42 : x42_.toInt = (I41 a0 20).toInt := by rw [e42]
              have w42 : x42_ = x40_ := by rw [e42]; exact (by rw [eI41]; exact up2_self _ _ _ _)
              have wt42 : x42_.toInt = x40_.toInt := by rw [w42]
              refine r_callV hC (As := [.int x42_]) (rest := []) (ci := 10) (c_X10_done g (xL X) K len I41 J R hs41 a0 ka0 x42_) mT_6_79 mT_1_10 mT_6_76 mT_6_78 mP_67 okX10_done ⟨by decide, by decide⟩ rfl (by show kO (K a0) = _; rw [ka0]; rfl) rfl rfl (Nat.le_of_ble_eq_true rfl) ⟨by decide, by decide⟩ dX10_read_127 (aI1 (F := fun st M => P g X 5 130 [(0, .ref a0), (1, .int x1), (2, .int x2), (3, .int x3), (4, .int x4)] st _ _ M) (M := (K, len, I41, J, R)) fun x43_ I43 h43 => ?_)
              obtain ⟨hs43, hf43, k43_0, k43_1, k43_2⟩ := h43
              show P g X 5 130 [(0, .ref a0), (1, .int x1), (2, .int x2), (3, .int x3), (4, .int x4)] [.int x43_] _ _ (K, len, I43, J, R)
              have hF43 : Fr K [(11, 0), (11, 1), (11, 2), (11, 20), (89, 999), (90, 999), (91, 999), (92, 999)] I I43 := hF41.trans hf43 rfl rfl
              have hv20 : I43 a0 20 = x42_ := (Eq.trans (hf43.get ka0 rfl) e42.symm)
              have hv20t : (I43 a0 20).toInt = x42_.toInt := congrArg Int32.toInt hv20
              exact r_iret hC hQ hlk hr rfl (by decide) (by decide) dX10_read_130 ⟨_, _, rfl, rfl, ⟨hs43, hF43, (by first | exact Or.inl ⟨hz, by omega, by omega⟩ | exact Or.inr ⟨hm, hbm, Or.inr ⟨by omega, by omega, by omega⟩⟩ | exact Or.inr ⟨hm, hbm, Or.inl ⟨by omega, by have h9 := congrArg Int32.toInt k43_0; omega, by omega⟩⟩), (by omega)⟩⟩
            · refine r_aload_n hC dX10_read_65 0 rfl ?_
              refine r_iconst hC (v := (3)) dX10_read_66 (by decide) (by decide) (fun x44_ e44 t44 => ?_)
              refine r_callV hC (As := [.int x44_]) (rest := []) (ci := 10) (c_X10_refused g (xL X) K len I8 J R hs8 a0 ka0 x44_) mT_5_85 mT_1_10 mT_5_82 mT_5_84 mP_48 okX10_refused ⟨by decide, by decide⟩ rfl (by show kO (K a0) = _; rw [ka0]; rfl) rfl rfl (Nat.le_of_ble_eq_true rfl) ⟨by decide, by decide⟩ dX10_read_67 (aI1 (F := fun st M => P g X 5 70 [(0, .ref a0), (1, .int x1), (2, .int x2), (3, .int x3), (4, .int x4)] st _ _ M) (M := (K, len, I8, J, R)) fun x45_ I45 h45 => ?_)
              obtain ⟨hs45, hf45, k45_0, k45_1, k45_2⟩ := h45
              show P g X 5 70 [(0, .ref a0), (1, .int x1), (2, .int x2), (3, .int x3), (4, .int x4)] [.int x45_] _ _ (K, len, I45, J, R)
              have hF45 : Fr K [(11, 0), (11, 1), (11, 2), (11, 20), (89, 999), (90, 999), (91, 999), (92, 999)] I I45 := hF8.trans hf45 rfl rfl
              have hv20 : I45 a0 20 = x23_ := (Eq.trans (hf45.get ka0 rfl) e23.symm)
              have hv20t : (I45 a0 20).toInt = x23_.toInt := congrArg Int32.toInt hv20
              exact r_iret hC hQ hlk hr rfl (by decide) (by decide) dX10_read_70 ⟨_, _, rfl, rfl, ⟨hs45, hF45, (by first | exact Or.inl ⟨hz, by omega, by omega⟩ | exact Or.inr ⟨hm, hbm, Or.inr ⟨by omega, by omega, by omega⟩⟩ | exact Or.inr ⟨hm, hbm, Or.inl ⟨by omega, by have h9 := congrArg Int32.toInt k45_0; omega, by omega⟩⟩), (by omega)⟩⟩
          · refine r_if_ne hC (tgt := 56) dX10_read_47 (by decide) (fun c46 => ?_) (fun c46 => ?_)
            · exfalso; omega
            refine r_aload_n hC dX10_read_50 0 rfl ?_
            refine r_iconst hC (v := (2)) dX10_read_51 (by decide) (by decide) (fun x47_ e47 t47 => ?_)
            refine r_callV hC (As := [.int x47_]) (rest := []) (ci := 10) (c_X10_refused g (xL X) K len I8 J R hs8 a0 ka0 x47_) mT_5_85 mT_1_10 mT_5_82 mT_5_84 mP_48 okX10_refused ⟨by decide, by decide⟩ rfl (by show kO (K a0) = _; rw [ka0]; rfl) rfl rfl (Nat.le_of_ble_eq_true rfl) ⟨by decide, by decide⟩ dX10_read_52 (aI1 (F := fun st M => P g X 5 55 [(0, .ref a0), (1, .int x1), (2, .int x2), (3, .int x3), (4, .int x4)] st _ _ M) (M := (K, len, I8, J, R)) fun x48_ I48 h48 => ?_)
            obtain ⟨hs48, hf48, k48_0, k48_1, k48_2⟩ := h48
            show P g X 5 55 [(0, .ref a0), (1, .int x1), (2, .int x2), (3, .int x3), (4, .int x4)] [.int x48_] _ _ (K, len, I48, J, R)
            have hF48 : Fr K [(11, 0), (11, 1), (11, 2), (11, 20), (89, 999), (90, 999), (91, 999), (92, 999)] I I48 := hF8.trans hf48 rfl rfl
            have hv20 : I48 a0 20 = C0 := (Eq.trans (hf48.get ka0 rfl) (Eq.trans (up2_at (Or.inr (by decide)) eI8) eC0.symm))
            have hv20t : (I48 a0 20).toInt = C0.toInt := congrArg Int32.toInt hv20
            exact r_iret hC hQ hlk hr rfl (by decide) (by decide) dX10_read_55 ⟨_, _, rfl, rfl, ⟨hs48, hF48, (by first | exact Or.inl ⟨hz, by omega, by omega⟩ | exact Or.inr ⟨hm, hbm, Or.inr ⟨by omega, by omega, by omega⟩⟩ | exact Or.inr ⟨hm, hbm, Or.inl ⟨by omega, by have h9 := congrArg Int32.toInt k48_0; omega, by omega⟩⟩), (by omega)⟩⟩
        · refine r_if_eq hC (tgt := 50) dX10_read_35 (by decide) (fun c49 => ?_) (fun c49 => ?_)
          rotate_left
          · exfalso; omega
          refine r_aload_n hC dX10_read_50 0 rfl ?_
          refine r_iconst hC (v := (2)) dX10_read_51 (by decide) (by decide) (fun x50_ e50 t50 => ?_)
          refine r_callV hC (As := [.int x50_]) (rest := []) (ci := 10) (c_X10_refused g (xL X) K len I8 J R hs8 a0 ka0 x50_) mT_5_85 mT_1_10 mT_5_82 mT_5_84 mP_48 okX10_refused ⟨by decide, by decide⟩ rfl (by show kO (K a0) = _; rw [ka0]; rfl) rfl rfl (Nat.le_of_ble_eq_true rfl) ⟨by decide, by decide⟩ dX10_read_52 (aI1 (F := fun st M => P g X 5 55 [(0, .ref a0), (1, .int x1), (2, .int x2), (3, .int x3), (4, .int x4)] st _ _ M) (M := (K, len, I8, J, R)) fun x51_ I51 h51 => ?_)
          obtain ⟨hs51, hf51, k51_0, k51_1, k51_2⟩ := h51
          show P g X 5 55 [(0, .ref a0), (1, .int x1), (2, .int x2), (3, .int x3), (4, .int x4)] [.int x51_] _ _ (K, len, I51, J, R)
          have hF51 : Fr K [(11, 0), (11, 1), (11, 2), (11, 20), (89, 999), (90, 999), (91, 999), (92, 999)] I I51 := hF8.trans hf51 rfl rfl
          have hv20 : I51 a0 20 = C0 := (Eq.trans (hf51.get ka0 rfl) (Eq.trans (up2_at (Or.inr (by decide)) eI8) eC0.symm))
          have hv20t : (I51 a0 20).toInt = C0.toInt := congrArg Int32.toInt hv20
          exact r_iret hC hQ hlk hr rfl (by decide) (by decide) dX10_read_55 ⟨_, _, rfl, rfl, ⟨hs51, hF51, (by first | exact Or.inl ⟨hz, by omega, by omega⟩ | exact Or.inr ⟨hm, hbm, Or.inr ⟨by omega, by omega, by omega⟩⟩ | exact Or.inr ⟨hm, hbm, Or.inl ⟨by omega, by have h9 := congrArg Int32.toInt k51_0; omega, by omega⟩⟩), (by omega)⟩⟩
      · refine r_aload_n hC dX10_read_21 0 rfl ?_
        refine r_iconst hC (v := (1)) dX10_read_22 (by decide) (by decide) (fun x52_ e52 t52 => ?_)
        refine r_callV hC (As := [.int x52_]) (rest := []) (ci := 10) (c_X10_refused g (xL X) K len I8 J R hs8 a0 ka0 x52_) mT_5_85 mT_1_10 mT_5_82 mT_5_84 mP_48 okX10_refused ⟨by decide, by decide⟩ rfl (by show kO (K a0) = _; rw [ka0]; rfl) rfl rfl (Nat.le_of_ble_eq_true rfl) ⟨by decide, by decide⟩ dX10_read_23 (aI1 (F := fun st M => P g X 5 26 [(0, .ref a0), (1, .int x1), (2, .int x2), (3, .int x3), (4, .int x4)] st _ _ M) (M := (K, len, I8, J, R)) fun x53_ I53 h53 => ?_)
        obtain ⟨hs53, hf53, k53_0, k53_1, k53_2⟩ := h53
        show P g X 5 26 [(0, .ref a0), (1, .int x1), (2, .int x2), (3, .int x3), (4, .int x4)] [.int x53_] _ _ (K, len, I53, J, R)
        have hF53 : Fr K [(11, 0), (11, 1), (11, 2), (11, 20), (89, 999), (90, 999), (91, 999), (92, 999)] I I53 := hF8.trans hf53 rfl rfl
        have hv20 : I53 a0 20 = C0 := (Eq.trans (hf53.get ka0 rfl) (Eq.trans (up2_at (Or.inr (by decide)) eI8) eC0.symm))
        have hv20t : (I53 a0 20).toInt = C0.toInt := congrArg Int32.toInt hv20
        exact r_iret hC hQ hlk hr rfl (by decide) (by decide) dX10_read_26 ⟨_, _, rfl, rfl, ⟨hs53, hF53, (by first | exact Or.inl ⟨hz, by omega, by omega⟩ | exact Or.inr ⟨hm, hbm, Or.inr ⟨by omega, by omega, by omega⟩⟩ | exact Or.inr ⟨hm, hbm, Or.inl ⟨by omega, by have h9 := congrArg Int32.toInt k53_0; omega, by omega⟩⟩), (by omega)⟩⟩
set_option maxHeartbeats 4000000 in
set_option maxRecDepth 100000 in
theorem f_X10_forget (g : GG) (l : Launch) (K len : Nat → Nat) (I : Nat → Nat → Int32) (J : Nat → Nat → Int64) (R : Nat → Nat → Option Nat) (hs : Sf K len I R) (a0 : Nat) (ka0 : K a0 = 11) : Ct g l yX10_forget cX10_forget 2 (Option.some Jvm.ClassFile.FieldType.int) rmX10_forget [.ref a0] (K, len, I, J, R) (pI1 (K, len, I, J, R) (fun r I' => Sf K len I' R ∧ Fr K [(11, 0), (11, 20)] I I' ∧ (r.toInt = (I a0 20).toInt) ∧ ((I' a0 20).toInt = 0))) := by
  refine Ct_intro (by decide +kernel) (Nat.le_of_ble_eq_true rfl) (fun X hC hL hKK hNm hr hlk hQ => ?_)
  subst hL
  have hC : Cx g X cX10_forget "HillTapModel" 2 rmX10_forget := hC
  show P g X 2 0 [(0, .ref a0)] [] 0 0 (K, len, I, J, R)
  have hF : Fr K [(11, 0), (11, 20)] I I := Fr.refl
  obtain ⟨C0, eC0⟩ : ∃ z : Int32, z = I a0 20 := ⟨_, rfl⟩
  have fC0 : C0.toInt = (I a0 20).toInt := by rw [eC0]
  have rC0 := hs.rng ka0 rfl eC0
  refine r_aload_n hC dX10_forget_0 0 rfl ?_
  refine r_iconst hC (v := (0)) dX10_forget_1 (by decide) (by decide) (fun x1_ e1 t1 => ?_)
  refine r_puti hC 0 (ci := 10) rfl u10_in tyX10_ok nmX10 (by decide) mT_4_235 rfl rfl rfl dX10_forget_2 ka0 rfl rfl (fun I2 eI2 => ?_)
  have hs2 := hs.put0 eI2 ka0 rfl rfl rfl (by decide)
  have hF2 := hF.put eI2 ka0 rfl
  refine r_aload_n hC dX10_forget_5 0 rfl ?_
  refine r_geti hC 20 (ci := 10) rfl u10_in (by decide) mT_5_15 dX10_forget_6 ka0 rfl rfl (fun x3_ e3 => ?_)
  have r3 := hs2.rng ka0 rfl e3
  have f3 : x3_.toInt = (I2 a0 20).toInt := by rw [e3]
  have w3 : x3_ = C0 := by rw [e3]; exact (Eq.trans (up2_at (Or.inr (by decide)) eI2) eC0.symm)
  have wt3 : x3_.toInt = C0.toInt := by rw [w3]
  refine r_istore_n hC (lv' := [(1, .int x3_), (0, .ref a0)]) dX10_forget_9 (by decide) rfl ?_
  refine r_aload_n hC dX10_forget_10 1 rfl ?_
  refine r_iconst hC (v := (0)) dX10_forget_11 (by decide) (by decide) (fun x4_ e4 t4 => ?_)
  refine r_puti hC 20 (ci := 10) rfl u10_in tyX10_ok nmX10 (by decide) mT_5_15 rfl rfl rfl dX10_forget_12 ka0 rfl rfl (fun I5 eI5 => ?_)
  have hs5 := hs2.put1 eI5 ka0 rfl (by omega) (by omega) rfl rfl (by decide)
  have hF5 := hF2.put eI5 ka0 rfl
  refine r_iload_n hC dX10_forget_15 0 rfl ?_
  have hv20 : I5 a0 20 = x4_ := (by rw [eI5]; exact up2_self _ _ _ _)
  have hv20t : (I5 a0 20).toInt = x4_.toInt := congrArg Int32.toInt hv20
  exact r_iret hC hQ hlk hr rfl (by decide) (by decide) dX10_forget_16 ⟨_, _, rfl, rfl, ⟨hs5, hF5, (by omega), (by omega)⟩⟩
set_option maxHeartbeats 4000000 in
set_option maxRecDepth 100000 in
theorem f_X10_size (g : GG) (l : Launch) (K len : Nat → Nat) (I : Nat → Nat → Int32) (J : Nat → Nat → Int64) (R : Nat → Nat → Option Nat) (hs : Sf K len I R) (a0 : Nat) (ka0 : K a0 = 11) (x1 : Int32) : Ct g l yX10_size cX10_size 2 (Option.some Jvm.ClassFile.FieldType.int) rmX10_size [.ref a0, .int x1] (K, len, I, J, R) (pI1 (K, len, I, J, R) (fun r I' => Sf K len I' R ∧ Fr K [(11, 0)] I I' ∧ ((R a0 3 = none ∧ (x1.toInt = 7 → r.toInt = (I a0 6).toInt) ∧ ((x1.toInt < 0 ∨ 9 < x1.toInt) → r.toInt = -1) ∧ (0 ≤ x1.toInt ∧ x1.toInt ≤ 9 ∧ x1.toInt ≠ 7 → r.toInt = 0)) ∨ (∃ hm, R a0 3 = some hm ∧ ((x1.toInt = 0 → r.toInt = (I hm 3).toInt) ∧ (x1.toInt = 1 → r.toInt = (I hm 4).toInt) ∧ (x1.toInt = 2 → r.toInt = (I hm 6).toInt) ∧ (x1.toInt = 3 → r.toInt = (I hm 7).toInt) ∧ (x1.toInt = 4 → r.toInt = (I hm 8).toInt) ∧ (x1.toInt = 5 → r.toInt = (I hm 9).toInt) ∧ (x1.toInt = 6 → r.toInt = (I a0 20).toInt) ∧ (x1.toInt = 7 → r.toInt = (I a0 6).toInt) ∧ (x1.toInt = 8 → r.toInt = (I hm 0).toInt) ∧ (x1.toInt = 9 → r.toInt = (I hm 2).toInt) ∧ ((x1.toInt < 0 ∨ 9 < x1.toInt) → r.toInt = -1)))))) := by
  refine Ct_intro (by decide +kernel) (Nat.le_of_ble_eq_true rfl) (fun X hC hL hKK hNm hr hlk hQ => ?_)
  subst hL
  have hC : Cx g X cX10_size "HillTapModel" 2 rmX10_size := hC
  show P g X 2 0 [(0, .ref a0), (1, .int x1)] [] 0 0 (K, len, I, J, R)
  have hF : Fr K [(11, 0)] I I := Fr.refl
  have b_x1 := ti_rng x1
  obtain ⟨L6, eL6⟩ : ∃ z : Int32, z = I a0 6 := ⟨_, rfl⟩
  have fL6 : L6.toInt = (I a0 6).toInt := by rw [eL6]
  have rL6 := hs.rng ka0 rfl eL6
  obtain ⟨C0, eC0⟩ : ∃ z : Int32, z = I a0 20 := ⟨_, rfl⟩
  have fC0 : C0.toInt = (I a0 20).toInt := by rw [eC0]
  have rC0 := hs.rng ka0 rfl eC0
  rcases hs.2.1.2.2.1 a0 ka0 with hz | ⟨hm, hbm, khm⟩
  · refine r_aload_n hC dX10_size_0 0 rfl ?_
    refine r_iconst hC (v := (0)) dX10_size_1 (by decide) (by decide) (fun x1_ e1 t1 => ?_)
    refine r_puti hC 0 (ci := 10) rfl u10_in tyX10_ok nmX10 (by decide) mT_4_235 rfl rfl rfl dX10_size_2 ka0 rfl rfl (fun I2 eI2 => ?_)
    have hs2 := hs.put0 eI2 ka0 rfl rfl rfl (by decide)
    have hF2 := hF.put eI2 ka0 rfl
    refine r_iload_n hC dX10_size_5 1 rfl ?_
    refine r_bipush hC (v := (7)) dX10_size_6 (by decide) (by decide) (fun x3_ e3 t3 => ?_)
    refine r_icmp_ne hC (tgt := 16) dX10_size_8 (by decide) (fun c4 => ?_) (fun c4 => ?_)
    · refine r_iload_n hC dX10_size_16 1 rfl ?_
      refine r_iconst hC (v := (0)) dX10_size_17 (by decide) (by decide) (fun x5_ e5 t5 => ?_)
      refine r_bipush hC (v := (9)) dX10_size_18 (by decide) (by decide) (fun x6_ e6 t6 => ?_)
      refine r_callS hC (As := [.int x1, .int x5_, .int x6_]) (rest := []) (f_X10_in g (xL X) K len I2 J R hs2 x1 x5_ x6_) mT_6_8 mT_1_10 mT_6_6 mT_6_7 okX10_in ⟨by decide, by decide⟩ rfl rfl (Nat.le_of_ble_eq_true rfl) ⟨by decide, by decide⟩ dX10_size_20 (aI0 (F := fun st M => P g X 2 23 [(0, .ref a0), (1, .int x1)] st _ _ M) (M := (K, len, I2, J, R)) fun x7_ h7 => ?_)
      have k7_0 := h7
      clear h7
      show P g X 2 23 [(0, .ref a0), (1, .int x1)] [.int x7_] _ _ (K, len, I2, J, R)
      rcases k7_0 with ⟨hr7, hw7⟩ | ⟨hr7, hw7⟩
      · refine r_if_ne hC (tgt := 28) dX10_size_23 (by decide) (fun c8 => ?_) (fun c8 => ?_)
        rotate_left
        · exfalso; omega
        refine r_aload_n hC dX10_size_28 0 rfl ?_
        refine r_getz hC 3 (ci := 10) rfl u10_in (by decide) mT_4_238 dX10_size_29 ka0 rfl rfl hz ?_
        refine r_ifnonnullN hC dX10_size_32 ?_
        refine r_iconst hC (v := (0)) dX10_size_35 (by decide) (by decide) (fun x9_ e9 t9 => ?_)
        exact r_iret hC hQ hlk hr rfl (by decide) (by decide) dX10_size_36 ⟨_, _, rfl, rfl, ⟨hs2, hF2, (by first | exact Or.inl ⟨hz, by omega, by omega, by omega⟩ | exact Or.inr ⟨hm, hbm, by omega, by omega, by omega, by omega, by omega, by omega, by omega, by omega, by omega, by omega, by omega⟩)⟩⟩
      · refine r_if_ne hC (tgt := 28) dX10_size_23 (by decide) (fun c10 => ?_) (fun c10 => ?_)
        · exfalso; omega
        refine r_iconst hC (v := (-1)) dX10_size_26 (by decide) (by decide) (fun x11_ e11 t11 => ?_)
        exact r_iret hC hQ hlk hr rfl (by decide) (by decide) dX10_size_27 ⟨_, _, rfl, rfl, ⟨hs2, hF2, (by first | exact Or.inl ⟨hz, by omega, by omega, by omega⟩ | exact Or.inr ⟨hm, hbm, by omega, by omega, by omega, by omega, by omega, by omega, by omega, by omega, by omega, by omega, by omega⟩)⟩⟩
    · refine r_aload_n hC dX10_size_11 0 rfl ?_
      refine r_geti hC 6 (ci := 10) rfl u10_in (by decide) mT_5_1 dX10_size_12 ka0 rfl rfl (fun x12_ e12 => ?_)
      have r12 := hs2.rng ka0 rfl e12
      have f12 : x12_.toInt = (I2 a0 6).toInt := by rw [e12]
      have w12 : x12_ = L6 := by rw [e12]; exact (Eq.trans (up2_at (Or.inr (by decide)) eI2) eL6.symm)
      have wt12 : x12_.toInt = L6.toInt := by rw [w12]
      exact r_iret hC hQ hlk hr rfl (by decide) (by decide) dX10_size_15 ⟨_, _, rfl, rfl, ⟨hs2, hF2, (by first | exact Or.inl ⟨hz, by omega, by omega, by omega⟩ | exact Or.inr ⟨hm, hbm, by omega, by omega, by omega, by omega, by omega, by omega, by omega, by omega, by omega, by omega, by omega⟩)⟩⟩
  · obtain ⟨S0, eS0⟩ : ∃ z : Int32, z = I hm 7 := ⟨_, rfl⟩
    have fS0 : S0.toInt = (I hm 7).toInt := by rw [eS0]
    have rS0 := hs.rng khm rfl eS0
    obtain ⟨Z0, eZ0⟩ : ∃ z : Int32, z = I hm 0 := ⟨_, rfl⟩
    have fZ0 : Z0.toInt = (I hm 0).toInt := by rw [eZ0]
    obtain ⟨Z2, eZ2⟩ : ∃ z : Int32, z = I hm 2 := ⟨_, rfl⟩
    have fZ2 : Z2.toInt = (I hm 2).toInt := by rw [eZ2]
    obtain ⟨Z3, eZ3⟩ : ∃ z : Int32, z = I hm 3 := ⟨_, rfl⟩
    have fZ3 : Z3.toInt = (I hm 3).toInt := by rw [eZ3]
    have rZ3 := hs.rng khm rfl eZ3
    obtain ⟨Z4, eZ4⟩ : ∃ z : Int32, z = I hm 4 := ⟨_, rfl⟩
    have fZ4 : Z4.toInt = (I hm 4).toInt := by rw [eZ4]
    have rZ4 := hs.rng khm rfl eZ4
    obtain ⟨Z6, eZ6⟩ : ∃ z : Int32, z = I hm 6 := ⟨_, rfl⟩
    have fZ6 : Z6.toInt = (I hm 6).toInt := by rw [eZ6]
    have rZ6 := hs.rng khm rfl eZ6
    obtain ⟨Z7, eZ7⟩ : ∃ z : Int32, z = I hm 7 := ⟨_, rfl⟩
    have fZ7 : Z7.toInt = (I hm 7).toInt := by rw [eZ7]
    have rZ7 := hs.rng khm rfl eZ7
    obtain ⟨Z8, eZ8⟩ : ∃ z : Int32, z = I hm 8 := ⟨_, rfl⟩
    have fZ8 : Z8.toInt = (I hm 8).toInt := by rw [eZ8]
    have rZ8 := hs.rng khm rfl eZ8
    obtain ⟨Z9, eZ9⟩ : ∃ z : Int32, z = I hm 9 := ⟨_, rfl⟩
    have fZ9 : Z9.toInt = (I hm 9).toInt := by rw [eZ9]
    have rZ9 := hs.rng khm rfl eZ9
    refine r_aload_n hC dX10_size_0 0 rfl ?_
    refine r_iconst hC (v := (0)) dX10_size_1 (by decide) (by decide) (fun x13_ e13 t13 => ?_)
    refine r_puti hC 0 (ci := 10) rfl u10_in tyX10_ok nmX10 (by decide) mT_4_235 rfl rfl rfl dX10_size_2 ka0 rfl rfl (fun I14 eI14 => ?_)
    have hs14 := hs.put0 eI14 ka0 rfl rfl rfl (by decide)
    have hF14 := hF.put eI14 ka0 rfl
    refine r_iload_n hC dX10_size_5 1 rfl ?_
    refine r_bipush hC (v := (7)) dX10_size_6 (by decide) (by decide) (fun x15_ e15 t15 => ?_)
    refine r_icmp_ne hC (tgt := 16) dX10_size_8 (by decide) (fun c16 => ?_) (fun c16 => ?_)
    · refine r_iload_n hC dX10_size_16 1 rfl ?_
      refine r_iconst hC (v := (0)) dX10_size_17 (by decide) (by decide) (fun x17_ e17 t17 => ?_)
      refine r_bipush hC (v := (9)) dX10_size_18 (by decide) (by decide) (fun x18_ e18 t18 => ?_)
      refine r_callS hC (As := [.int x1, .int x17_, .int x18_]) (rest := []) (f_X10_in g (xL X) K len I14 J R hs14 x1 x17_ x18_) mT_6_8 mT_1_10 mT_6_6 mT_6_7 okX10_in ⟨by decide, by decide⟩ rfl rfl (Nat.le_of_ble_eq_true rfl) ⟨by decide, by decide⟩ dX10_size_20 (aI0 (F := fun st M => P g X 2 23 [(0, .ref a0), (1, .int x1)] st _ _ M) (M := (K, len, I14, J, R)) fun x19_ h19 => ?_)
      have k19_0 := h19
      clear h19
      show P g X 2 23 [(0, .ref a0), (1, .int x1)] [.int x19_] _ _ (K, len, I14, J, R)
      rcases k19_0 with ⟨hr19, hw19⟩ | ⟨hr19, hw19⟩
      · refine r_if_ne hC (tgt := 28) dX10_size_23 (by decide) (fun c20 => ?_) (fun c20 => ?_)
        rotate_left
        · exfalso; omega
        refine r_aload_n hC dX10_size_28 0 rfl ?_
        refine r_getr hC 3 (ci := 10) rfl u10_in (by decide) mT_4_238 dX10_size_29 ka0 rfl rfl hbm ?_
        refine r_ifnonnull hC (tgt := 37) dX10_size_32 (by decide) ?_
        refine r_iload_n hC dX10_size_37 1 rfl ?_
        by_cases o21 : x1.toInt < 0 ∨ 8 < x1.toInt
        · refine r_tabOut hC (tgt := 149) dX10_size_38 o21 (by decide) ?_
          refine r_aload_n hC dX10_size_149 0 rfl ?_
          refine r_getr hC 3 (ci := 10) rfl u10_in (by decide) mT_4_238 dX10_size_150 ka0 rfl rfl hbm ?_
          refine r_getiN hC 2 (ci := 9) rfl u9_in (by decide) nF_2 dX10_size_153 khm rfl rfl (fun x22_ e22 => ?_)
          have f22 : x22_.toInt = (I14 hm 2).toInt := by rw [e22]
          have w22 : x22_ = Z2 := by rw [e22]; exact (Eq.trans (up2_kk eI14 ka0 khm (by decide)) eZ2.symm)
          have wt22 : x22_.toInt = Z2.toInt := by rw [w22]
          exact r_iret hC hQ hlk hr rfl (by decide) (by decide) dX10_size_156 ⟨_, _, rfl, rfl, ⟨hs14, hF14, (by first | exact Or.inl ⟨hz, by omega, by omega, by omega⟩ | exact Or.inr ⟨hm, hbm, by omega, by omega, by omega, by omega, by omega, by omega, by omega, by omega, by omega, by omega, by omega⟩)⟩⟩
        · rcases (show x1.toInt = 0 ∨ x1.toInt = 1 ∨ x1.toInt = 2 ∨ x1.toInt = 3 ∨ x1.toInt = 4 ∨ x1.toInt = 5 ∨ x1.toInt = 6 ∨ x1.toInt = 7 ∨ x1.toInt = 8 by omega) with o21 | o21 | o21 | o21 | o21 | o21 | o21 | o21 | o21
          · refine r_tabIn hC (tgt := 88) (off := 50) dX10_size_38 (by omega) (by omega) (by rw [o21]; decide) (by decide) ?_
            refine r_aload_n hC dX10_size_88 0 rfl ?_
            refine r_getr hC 3 (ci := 10) rfl u10_in (by decide) mT_4_238 dX10_size_89 ka0 rfl rfl hbm ?_
            refine r_getiN hC 3 (ci := 9) rfl u9_in (by decide) nF_3 dX10_size_92 khm rfl rfl (fun x23_ e23 => ?_)
            have r23 := hs14.rng khm rfl e23
            have f23 : x23_.toInt = (I14 hm 3).toInt := by rw [e23]
            have w23 : x23_ = Z3 := by rw [e23]; exact (Eq.trans (up2_kk eI14 ka0 khm (by decide)) eZ3.symm)
            have wt23 : x23_.toInt = Z3.toInt := by rw [w23]
            exact r_iret hC hQ hlk hr rfl (by decide) (by decide) dX10_size_95 ⟨_, _, rfl, rfl, ⟨hs14, hF14, (by first | exact Or.inl ⟨hz, by omega, by omega, by omega⟩ | exact Or.inr ⟨hm, hbm, by omega, by omega, by omega, by omega, by omega, by omega, by omega, by omega, by omega, by omega, by omega⟩)⟩⟩
          · refine r_tabIn hC (tgt := 96) (off := 58) dX10_size_38 (by omega) (by omega) (by rw [o21]; decide) (by decide) ?_
            refine r_aload_n hC dX10_size_96 0 rfl ?_
            refine r_getr hC 3 (ci := 10) rfl u10_in (by decide) mT_4_238 dX10_size_97 ka0 rfl rfl hbm ?_
            refine r_getiN hC 4 (ci := 9) rfl u9_in (by decide) nF_4 dX10_size_100 khm rfl rfl (fun x24_ e24 => ?_)
            have r24 := hs14.rng khm rfl e24
            have f24 : x24_.toInt = (I14 hm 4).toInt := by rw [e24]
            have w24 : x24_ = Z4 := by rw [e24]; exact (Eq.trans (up2_kk eI14 ka0 khm (by decide)) eZ4.symm)
            have wt24 : x24_.toInt = Z4.toInt := by rw [w24]
            exact r_iret hC hQ hlk hr rfl (by decide) (by decide) dX10_size_103 ⟨_, _, rfl, rfl, ⟨hs14, hF14, (by first | exact Or.inl ⟨hz, by omega, by omega, by omega⟩ | exact Or.inr ⟨hm, hbm, by omega, by omega, by omega, by omega, by omega, by omega, by omega, by omega, by omega, by omega, by omega⟩)⟩⟩
          · refine r_tabIn hC (tgt := 104) (off := 66) dX10_size_38 (by omega) (by omega) (by rw [o21]; decide) (by decide) ?_
            refine r_aload_n hC dX10_size_104 0 rfl ?_
            refine r_getr hC 3 (ci := 10) rfl u10_in (by decide) mT_4_238 dX10_size_105 ka0 rfl rfl hbm ?_
            refine r_getiN hC 6 (ci := 9) rfl u9_in (by decide) nF_6 dX10_size_108 khm rfl rfl (fun x25_ e25 => ?_)
            have r25 := hs14.rng khm rfl e25
            have f25 : x25_.toInt = (I14 hm 6).toInt := by rw [e25]
            have w25 : x25_ = Z6 := by rw [e25]; exact (Eq.trans (up2_kk eI14 ka0 khm (by decide)) eZ6.symm)
            have wt25 : x25_.toInt = Z6.toInt := by rw [w25]
            exact r_iret hC hQ hlk hr rfl (by decide) (by decide) dX10_size_111 ⟨_, _, rfl, rfl, ⟨hs14, hF14, (by first | exact Or.inl ⟨hz, by omega, by omega, by omega⟩ | exact Or.inr ⟨hm, hbm, by omega, by omega, by omega, by omega, by omega, by omega, by omega, by omega, by omega, by omega, by omega⟩)⟩⟩
          · refine r_tabIn hC (tgt := 112) (off := 74) dX10_size_38 (by omega) (by omega) (by rw [o21]; decide) (by decide) ?_
            refine r_aload_n hC dX10_size_112 0 rfl ?_
            refine r_getr hC 3 (ci := 10) rfl u10_in (by decide) mT_4_238 dX10_size_113 ka0 rfl rfl hbm ?_
            refine r_getiN hC 7 (ci := 9) rfl u9_in (by decide) nF_7 dX10_size_116 khm rfl rfl (fun x26_ e26 => ?_)
            have r26 := hs14.rng khm rfl e26
            have f26 : x26_.toInt = (I14 hm 7).toInt := by rw [e26]
            have w26 : x26_ = Z7 := by rw [e26]; exact (Eq.trans (up2_kk eI14 ka0 khm (by decide)) eZ7.symm)
            have wt26 : x26_.toInt = Z7.toInt := by rw [w26]
            exact r_iret hC hQ hlk hr rfl (by decide) (by decide) dX10_size_119 ⟨_, _, rfl, rfl, ⟨hs14, hF14, (by first | exact Or.inl ⟨hz, by omega, by omega, by omega⟩ | exact Or.inr ⟨hm, hbm, by omega, by omega, by omega, by omega, by omega, by omega, by omega, by omega, by omega, by omega, by omega⟩)⟩⟩
          · refine r_tabIn hC (tgt := 120) (off := 82) dX10_size_38 (by omega) (by omega) (by rw [o21]; decide) (by decide) ?_
            refine r_aload_n hC dX10_size_120 0 rfl ?_
            refine r_getr hC 3 (ci := 10) rfl u10_in (by decide) mT_4_238 dX10_size_121 ka0 rfl rfl hbm ?_
            refine r_getiN hC 8 (ci := 9) rfl u9_in (by decide) nF_8 dX10_size_124 khm rfl rfl (fun x27_ e27 => ?_)
            have r27 := hs14.rng khm rfl e27
            have f27 : x27_.toInt = (I14 hm 8).toInt := by rw [e27]
            have w27 : x27_ = Z8 := by rw [e27]; exact (Eq.trans (up2_kk eI14 ka0 khm (by decide)) eZ8.symm)
            have wt27 : x27_.toInt = Z8.toInt := by rw [w27]
            exact r_iret hC hQ hlk hr rfl (by decide) (by decide) dX10_size_127 ⟨_, _, rfl, rfl, ⟨hs14, hF14, (by first | exact Or.inl ⟨hz, by omega, by omega, by omega⟩ | exact Or.inr ⟨hm, hbm, by omega, by omega, by omega, by omega, by omega, by omega, by omega, by omega, by omega, by omega, by omega⟩)⟩⟩
          · refine r_tabIn hC (tgt := 128) (off := 90) dX10_size_38 (by omega) (by omega) (by rw [o21]; decide) (by decide) ?_
            refine r_aload_n hC dX10_size_128 0 rfl ?_
            refine r_getr hC 3 (ci := 10) rfl u10_in (by decide) mT_4_238 dX10_size_129 ka0 rfl rfl hbm ?_
            refine r_getiN hC 9 (ci := 9) rfl u9_in (by decide) nF_9 dX10_size_132 khm rfl rfl (fun x28_ e28 => ?_)
            have r28 := hs14.rng khm rfl e28
            have f28 : x28_.toInt = (I14 hm 9).toInt := by rw [e28]
            have w28 : x28_ = Z9 := by rw [e28]; exact (Eq.trans (up2_kk eI14 ka0 khm (by decide)) eZ9.symm)
            have wt28 : x28_.toInt = Z9.toInt := by rw [w28]
            exact r_iret hC hQ hlk hr rfl (by decide) (by decide) dX10_size_135 ⟨_, _, rfl, rfl, ⟨hs14, hF14, (by first | exact Or.inl ⟨hz, by omega, by omega, by omega⟩ | exact Or.inr ⟨hm, hbm, by omega, by omega, by omega, by omega, by omega, by omega, by omega, by omega, by omega, by omega, by omega⟩)⟩⟩
          · refine r_tabIn hC (tgt := 136) (off := 98) dX10_size_38 (by omega) (by omega) (by rw [o21]; decide) (by decide) ?_
            refine r_aload_n hC dX10_size_136 0 rfl ?_
            refine r_geti hC 20 (ci := 10) rfl u10_in (by decide) mT_5_15 dX10_size_137 ka0 rfl rfl (fun x29_ e29 => ?_)
            have r29 := hs14.rng ka0 rfl e29
            have f29 : x29_.toInt = (I14 a0 20).toInt := by rw [e29]
            have w29 : x29_ = C0 := by rw [e29]; exact (Eq.trans (up2_at (Or.inr (by decide)) eI14) eC0.symm)
            have wt29 : x29_.toInt = C0.toInt := by rw [w29]
            exact r_iret hC hQ hlk hr rfl (by decide) (by decide) dX10_size_140 ⟨_, _, rfl, rfl, ⟨hs14, hF14, (by first | exact Or.inl ⟨hz, by omega, by omega, by omega⟩ | exact Or.inr ⟨hm, hbm, by omega, by omega, by omega, by omega, by omega, by omega, by omega, by omega, by omega, by omega, by omega⟩)⟩⟩
          · refine r_tabIn hC (tgt := 149) (off := 111) dX10_size_38 (by omega) (by omega) (by rw [o21]; decide) (by decide) ?_
            refine r_aload_n hC dX10_size_149 0 rfl ?_
            refine r_getr hC 3 (ci := 10) rfl u10_in (by decide) mT_4_238 dX10_size_150 ka0 rfl rfl hbm ?_
            refine r_getiN hC 2 (ci := 9) rfl u9_in (by decide) nF_2 dX10_size_153 khm rfl rfl (fun x30_ e30 => ?_)
            have f30 : x30_.toInt = (I14 hm 2).toInt := by rw [e30]
            have w30 : x30_ = Z2 := by rw [e30]; exact (Eq.trans (up2_kk eI14 ka0 khm (by decide)) eZ2.symm)
            have wt30 : x30_.toInt = Z2.toInt := by rw [w30]
            exact r_iret hC hQ hlk hr rfl (by decide) (by decide) dX10_size_156 ⟨_, _, rfl, rfl, ⟨hs14, hF14, (by first | exact Or.inl ⟨hz, by omega, by omega, by omega⟩ | exact Or.inr ⟨hm, hbm, by omega, by omega, by omega, by omega, by omega, by omega, by omega, by omega, by omega, by omega, by omega⟩)⟩⟩
          · refine r_tabIn hC (tgt := 141) (off := 103) dX10_size_38 (by omega) (by omega) (by rw [o21]; decide) (by decide) ?_
            refine r_aload_n hC dX10_size_141 0 rfl ?_
            refine r_getr hC 3 (ci := 10) rfl u10_in (by decide) mT_4_238 dX10_size_142 ka0 rfl rfl hbm ?_
            refine r_getiN hC 0 (ci := 9) rfl u9_in (by decide) nF_0 dX10_size_145 khm rfl rfl (fun x31_ e31 => ?_)
            have f31 : x31_.toInt = (I14 hm 0).toInt := by rw [e31]
            have w31 : x31_ = Z0 := by rw [e31]; exact (Eq.trans (up2_kk eI14 ka0 khm (by decide)) eZ0.symm)
            have wt31 : x31_.toInt = Z0.toInt := by rw [w31]
            exact r_iret hC hQ hlk hr rfl (by decide) (by decide) dX10_size_148 ⟨_, _, rfl, rfl, ⟨hs14, hF14, (by first | exact Or.inl ⟨hz, by omega, by omega, by omega⟩ | exact Or.inr ⟨hm, hbm, by omega, by omega, by omega, by omega, by omega, by omega, by omega, by omega, by omega, by omega, by omega⟩)⟩⟩
      · refine r_if_ne hC (tgt := 28) dX10_size_23 (by decide) (fun c32 => ?_) (fun c32 => ?_)
        · exfalso; omega
        refine r_iconst hC (v := (-1)) dX10_size_26 (by decide) (by decide) (fun x33_ e33 t33 => ?_)
        exact r_iret hC hQ hlk hr rfl (by decide) (by decide) dX10_size_27 ⟨_, _, rfl, rfl, ⟨hs14, hF14, (by first | exact Or.inl ⟨hz, by omega, by omega, by omega⟩ | exact Or.inr ⟨hm, hbm, by omega, by omega, by omega, by omega, by omega, by omega, by omega, by omega, by omega, by omega, by omega⟩)⟩⟩
    · refine r_aload_n hC dX10_size_11 0 rfl ?_
      refine r_geti hC 6 (ci := 10) rfl u10_in (by decide) mT_5_1 dX10_size_12 ka0 rfl rfl (fun x34_ e34 => ?_)
      have r34 := hs14.rng ka0 rfl e34
      have f34 : x34_.toInt = (I14 a0 6).toInt := by rw [e34]
      have w34 : x34_ = L6 := by rw [e34]; exact (Eq.trans (up2_at (Or.inr (by decide)) eI14) eL6.symm)
      have wt34 : x34_.toInt = L6.toInt := by rw [w34]
      exact r_iret hC hQ hlk hr rfl (by decide) (by decide) dX10_size_15 ⟨_, _, rfl, rfl, ⟨hs14, hF14, (by first | exact Or.inl ⟨hz, by omega, by omega, by omega⟩ | exact Or.inr ⟨hm, hbm, by omega, by omega, by omega, by omega, by omega, by omega, by omega, by omega, by omega, by omega, by omega⟩)⟩⟩

