theorem dj_u4 {D : DD} {v : Int} (h : DJ D) : DJ (upD D 0 4 v) := by
  obtain ⟨j1, j2, j3, j4, j5, j6, j7, j8⟩ := h
  exact ⟨fun j => by simpa [upD] using j1 j, fun i j => by simpa [upD] using j2 i j, fun j => by simpa [upD] using j3 j, BV.up j4 (by omega), by simpa [upD] using j5, fun j => by simpa [upD] using j6 j, fun j => by simpa [upD] using j7 j, fun j => by simpa [upD] using j8 j⟩
theorem aFrom_0 {D : DD} {a b : Int} : ∀ k, k ≠ 4 → aFrom D a b 0 k = D 0 k := fun k hk => by simp [aFrom, upD, hk]
theorem aFrom_4 {D : DD} {a b : Int} : aFrom D a b 0 4 = D 0 4 + 1 := by simp [aFrom, upD]
def fnd (kd k d : Int) : Int := if kd = 1 then (if d ≤ k then 1 else 0) else if kd = 2 then ((Int32.ofInt k * Int32.ofInt d) / Int32.ofInt 10).toInt else if kd = 3 then (if d = k then 2 else 0) else if kd = 5 then (if d ≤ 5 then 1 else 0) else 0
section FND
variable {kd k d r : Int}
theorem fnd_1 (h : kd = 1) (hd : d ≤ k) (hr : r = 1) : r = fnd kd k d := by unfold fnd; rw [if_pos h, if_pos hd]; exact hr
theorem fnd_1n (h : kd = 1) (hd : ¬ d ≤ k) (hr : r = 0) : r = fnd kd k d := by unfold fnd; rw [if_pos h, if_neg hd]; exact hr
theorem fnd_3 (h : kd = 3) (hd : d = k) (hr : r = 2) : r = fnd kd k d := by unfold fnd; rw [if_neg (by omega), if_neg (by omega), if_pos h, if_pos hd]; exact hr
theorem fnd_3n (h : kd = 3) (hd : ¬ d = k) (hr : r = 0) : r = fnd kd k d := by unfold fnd; rw [if_neg (by omega), if_neg (by omega), if_pos h, if_neg hd]; exact hr
theorem fnd_5 (h : kd = 5) (hd : d ≤ 5) (hr : r = 1) : r = fnd kd k d := by unfold fnd; rw [if_neg (by omega), if_neg (by omega), if_neg (by omega), if_pos h, if_pos hd]; exact hr
theorem fnd_5n (h : kd = 5) (hd : ¬ d ≤ 5) (hr : r = 0) : r = fnd kd k d := by unfold fnd; rw [if_neg (by omega), if_neg (by omega), if_neg (by omega), if_pos h, if_neg hd]; exact hr
theorem fnd_d (h : kd < 1 ∨ 5 < kd ∨ kd = 4) (hr : r = 0) : r = fnd kd k d := by unfold fnd; rw [if_neg (by omega), if_neg (by omega), if_neg (by omega), if_neg (by omega)]; exact hr
theorem i32o {x : Int32} {c : Int} (h : x.toInt = c) : x = Int32.ofInt c := by rw [← h]; exact (Int32.ofInt_toInt x).symm
theorem fnd_2 {xk xd t y z : Int32} (h : kd = 2) (hk : xk.toInt = k) (hd : xd.toInt = d) (em : t = xk * xd) (er : z = t / y) (hy : y.toInt = 10) : z.toInt = fnd kd k d := by
  unfold fnd; rw [if_neg (by omega), if_pos h, er, em, i32o hk, i32o hd, i32o hy]
end FND
theorem RW.und {C : Nat → Nat → Nat → Nat → Prop} {D : DD} {I : Nat → Nat → Int32} (h : RW C (cntN D) D I) : RW C (cntN (upD D 0 4 (D 0 4 - 1))) (upD D 0 4 (D 0 4 - 1)) I := h.cg15 fun r j hr h1 h2 => by
  rcases r15 r with rfl | rfl | rfl | rfl | rfl | rfl | rfl | rfl | rfl | rfl | rfl | rfl | rfl | rfl | rfl | hr'
  all_goals (first | omega | (simp [cntN, upD, rel9] at h1 h2 ⊢ <;> first | omega | (refine ⟨?_, ?_⟩ <;> first | assumption | omega | (intros; assumption))))
set_option maxHeartbeats 4000000 in
set_option maxRecDepth 100000 in
theorem f_X8_noHill (g : GG) (l : Launch) (K len : Nat → Nat) (I : Nat → Nat → Int32) (J : Nat → Nat → Int64) (R : Nat → Nat → Option Nat) (hs : Sf K len I R) (a0 : Nat) (ka0 : K a0 = 9) (h : Nat) (hh : R a0 2 = some h) (kh : K h = 2) : Ct g l yX8_noHill cX8_noHill 1 (Option.some Jvm.ClassFile.FieldType.boolean) rmX8_noHill [.ref a0] (K, len, I, J, R) (pI0 (K, len, I, J, R) (fun r => (r.toInt = 1 ∧ ((I h 6).toInt = 0) ∨ r.toInt = 0 ∧ ¬ ((I h 6).toInt = 0)))) := by
  refine Ct_intro (by decide +kernel) (Nat.le_of_ble_eq_true rfl) (fun X hC hL hKK hNm hr hlk hQ => ?_)
  subst hL
  have hC : Cx g X cX8_noHill "HillTap" 1 rmX8_noHill := hC
  show P g X 1 0 [(0, .ref a0)] [] 0 0 (K, len, I, J, R)
  have hF : Fr K [] I I := Fr.refl
  refine r_aload_n hC dX8_noHill_0 0 rfl ?_
  refine r_getr hC 2 (ci := 8) rfl u8_in (by decide) mT_2_80 dX8_noHill_1 ka0 rfl rfl hh ?_
  refine r_geti hC 6 (ci := 1) rfl u1_in (by decide) mT_1_202 dX8_noHill_4 kh rfl rfl (fun x1_ e1 => ?_)
  have r1 := hs.rng kh rfl e1
  have f1 : x1_.toInt = (I h 6).toInt := by rw [e1]
  refine r_if_ne hC (tgt := 14) dX8_noHill_7 (by decide) (fun c2 => ?_) (fun c2 => ?_)
  · refine r_iconst hC (v := (0)) dX8_noHill_14 (by decide) (by decide) (fun x3_ e3 t3 => ?_)
    exact r_iret hC hQ hlk hr (by rw [e3]; rfl) (by decide) (by decide) dX8_noHill_15 ⟨_, rfl, rfl, (by omega)⟩
  · refine r_iconst hC (v := (1)) dX8_noHill_10 (by decide) (by decide) (fun x4_ e4 t4 => ?_)
    refine r_goto hC (tgt := 15) dX8_noHill_11 (by decide) ?_
    exact r_iret hC hQ hlk hr (by rw [e4]; rfl) (by decide) (by decide) dX8_noHill_15 ⟨_, rfl, rfl, (by omega)⟩
set_option maxHeartbeats 4000000 in
set_option maxRecDepth 100000 in
theorem f_X8_isDay (g : GG) (l : Launch) (K len : Nat → Nat) (I : Nat → Nat → Int32) (J : Nat → Nat → Int64) (R : Nat → Nat → Option Nat) (hs : Sf K len I R) (x0 : Int32) : Ct g l yX8_isDay cX8_isDay 1 (Option.some Jvm.ClassFile.FieldType.boolean) rmX8_isDay [.int x0] (K, len, I, J, R) (pI0 (K, len, I, J, R) (fun r => (r.toInt = 1 ∧ (0 ≤ x0.toInt ∧ x0.toInt ≤ 59) ∨ r.toInt = 0 ∧ ¬ (0 ≤ x0.toInt ∧ x0.toInt ≤ 59)))) := by
  refine Ct_intro (by decide +kernel) (Nat.le_of_ble_eq_true rfl) (fun X hC hL hKK hNm hr hlk hQ => ?_)
  subst hL
  have hC : Cx g X cX8_isDay "HillTap" 1 rmX8_isDay := hC
  show P g X 1 0 [(0, .int x0)] [] 0 0 (K, len, I, J, R)
  have hF : Fr K [] I I := Fr.refl
  have b_x0 := ti_rng x0
  refine r_iload_n hC dX8_isDay_0 0 rfl ?_
  refine r_if_lt hC (tgt := 14) dX8_isDay_1 (by decide) (fun c1 => ?_) (fun c1 => ?_)
  · refine r_iconst hC (v := (0)) dX8_isDay_14 (by decide) (by decide) (fun x2_ e2 t2 => ?_)
    exact r_iret hC hQ hlk hr (by rw [e2]; rfl) (by decide) (by decide) dX8_isDay_15 ⟨_, rfl, rfl, (by omega)⟩
  · refine r_iload_n hC dX8_isDay_4 0 rfl ?_
    refine r_bipush hC (v := (60)) dX8_isDay_5 (by decide) (by decide) (fun x3_ e3 t3 => ?_)
    refine r_icmp_ge hC (tgt := 14) dX8_isDay_7 (by decide) (fun c4 => ?_) (fun c4 => ?_)
    · refine r_iconst hC (v := (0)) dX8_isDay_14 (by decide) (by decide) (fun x5_ e5 t5 => ?_)
      exact r_iret hC hQ hlk hr (by rw [e5]; rfl) (by decide) (by decide) dX8_isDay_15 ⟨_, rfl, rfl, (by omega)⟩
    · refine r_iconst hC (v := (1)) dX8_isDay_10 (by decide) (by decide) (fun x6_ e6 t6 => ?_)
      refine r_goto hC (tgt := 15) dX8_isDay_11 (by decide) ?_
      exact r_iret hC hQ hlk hr (by rw [e6]; rfl) (by decide) (by decide) dX8_isDay_15 ⟨_, rfl, rfl, (by omega)⟩
set_option maxHeartbeats 4000000 in
set_option maxRecDepth 100000 in
theorem f_X8_isPeg (g : GG) (l : Launch) (K len : Nat → Nat) (I : Nat → Nat → Int32) (J : Nat → Nat → Int64) (R : Nat → Nat → Option Nat) (hs : Sf K len I R) (a0 : Nat) (ka0 : K a0 = 9) (x1 : Int32) (h : Nat) (hh : R a0 2 = some h) (kh : K h = 2) : Ct g l yX8_isPeg cX8_isPeg 2 (Option.some Jvm.ClassFile.FieldType.boolean) rmX8_isPeg [.ref a0, .int x1] (K, len, I, J, R) (pI0 (K, len, I, J, R) (fun r => (r.toInt = 1 ∧ (0 ≤ x1.toInt ∧ x1.toInt < (I h 1).toInt) ∨ r.toInt = 0 ∧ ¬ (0 ≤ x1.toInt ∧ x1.toInt < (I h 1).toInt)))) := by
  refine Ct_intro (by decide +kernel) (Nat.le_of_ble_eq_true rfl) (fun X hC hL hKK hNm hr hlk hQ => ?_)
  subst hL
  have hC : Cx g X cX8_isPeg "HillTap" 2 rmX8_isPeg := hC
  show P g X 2 0 [(0, .ref a0), (1, .int x1)] [] 0 0 (K, len, I, J, R)
  have hF : Fr K [] I I := Fr.refl
  have b_x1 := ti_rng x1
  refine r_iload_n hC dX8_isPeg_0 1 rfl ?_
  refine r_if_lt hC (tgt := 19) dX8_isPeg_1 (by decide) (fun c1 => ?_) (fun c1 => ?_)
  · refine r_iconst hC (v := (0)) dX8_isPeg_19 (by decide) (by decide) (fun x2_ e2 t2 => ?_)
    exact r_iret hC hQ hlk hr (by rw [e2]; rfl) (by decide) (by decide) dX8_isPeg_20 ⟨_, rfl, rfl, (by omega)⟩
  · refine r_iload_n hC dX8_isPeg_4 1 rfl ?_
    refine r_aload_n hC dX8_isPeg_5 0 rfl ?_
    refine r_getr hC 2 (ci := 8) rfl u8_in (by decide) mT_2_80 dX8_isPeg_6 ka0 rfl rfl hh ?_
    refine r_geti hC 1 (ci := 1) rfl u1_in (by decide) mT_1_187 dX8_isPeg_9 kh rfl rfl (fun x3_ e3 => ?_)
    have r3 := hs.rng kh rfl e3
    have f3 : x3_.toInt = (I h 1).toInt := by rw [e3]
    refine r_icmp_ge hC (tgt := 19) dX8_isPeg_12 (by decide) (fun c4 => ?_) (fun c4 => ?_)
    · refine r_iconst hC (v := (0)) dX8_isPeg_19 (by decide) (by decide) (fun x5_ e5 t5 => ?_)
      exact r_iret hC hQ hlk hr (by rw [e5]; rfl) (by decide) (by decide) dX8_isPeg_20 ⟨_, rfl, rfl, (by omega)⟩
    · refine r_iconst hC (v := (1)) dX8_isPeg_15 (by decide) (by decide) (fun x6_ e6 t6 => ?_)
      refine r_goto hC (tgt := 20) dX8_isPeg_16 (by decide) ?_
      exact r_iret hC hQ hlk hr (by rw [e6]; rfl) (by decide) (by decide) dX8_isPeg_20 ⟨_, rfl, rfl, (by omega)⟩
set_option maxHeartbeats 4000000 in
set_option maxRecDepth 100000 in
theorem f_X8_forget (g : GG) (l : Launch) (K len : Nat → Nat) (I : Nat → Nat → Int32) (J : Nat → Nat → Int64) (R : Nat → Nat → Option Nat) (hs : Sf K len I R) (a0 : Nat) (ka0 : K a0 = 9) (rd : Nat) (hrd : R a0 9 = some rd) (krd : K rd = 4) : Ct g l yX8_forget cX8_forget 2 (Option.some Jvm.ClassFile.FieldType.int) rmX8_forget [.ref a0] (K, len, I, J, R) (pI1 (K, len, I, J, R) (fun r I' => Sf K len I' R ∧ Fr K [(4, 0)] I I' ∧ (r.toInt = (I rd 0).toInt) ∧ ((I' rd 0).toInt = 0))) := by
  refine Ct_intro (by decide +kernel) (Nat.le_of_ble_eq_true rfl) (fun X hC hL hKK hNm hr hlk hQ => ?_)
  subst hL
  have hC : Cx g X cX8_forget "HillTap" 2 rmX8_forget := hC
  show P g X 2 0 [(0, .ref a0)] [] 0 0 (K, len, I, J, R)
  have hF : Fr K [(4, 0)] I I := Fr.refl
  obtain ⟨C0, eC0⟩ : ∃ z : Int32, z = I rd 0 := ⟨_, rfl⟩
  have fC0 : C0.toInt = (I rd 0).toInt := by rw [eC0]
  have rC0 := hs.rng krd rfl eC0
  refine r_aload_n hC dX8_forget_0 0 rfl ?_
  refine r_getr hC 9 (ci := 8) rfl u8_in (by decide) mT_2_87 dX8_forget_1 ka0 rfl rfl hrd ?_
  refine r_geti hC 0 (ci := 3) rfl u3_in (by decide) mT_2_61 dX8_forget_4 krd rfl rfl (fun x1_ e1 => ?_)
  have r1 := hs.rng krd rfl e1
  have f1 : x1_.toInt = (I rd 0).toInt := by rw [e1]
  have w1 : x1_ = C0 := by rw [e1]; exact eC0.symm
  have wt1 : x1_.toInt = C0.toInt := by rw [w1]
  refine r_istore_n hC (lv' := [(1, .int x1_), (0, .ref a0)]) dX8_forget_7 (by decide) rfl ?_
  refine r_aload_n hC dX8_forget_8 1 rfl ?_
  refine r_getr hC 9 (ci := 8) rfl u8_in (by decide) mT_2_87 dX8_forget_9 ka0 rfl rfl hrd ?_
  refine r_iconst hC (v := (0)) dX8_forget_12 (by decide) (by decide) (fun x2_ e2 t2 => ?_)
  refine r_puti hC 0 (ci := 3) rfl u3_in tyX3_ok nmX3 (by decide) mT_2_61 rfl rfl rfl dX8_forget_13 krd rfl rfl (fun I3 eI3 => ?_)
  have hs3 := hs.put1 eI3 krd rfl (by omega) (by omega) rfl rfl (by decide)
  have hF3 := hF.put eI3 krd rfl
  refine r_iload_n hC dX8_forget_16 0 rfl ?_
  have hv0 : I3 rd 0 = x2_ := (by rw [eI3]; exact up2_self _ _ _ _)
  have hv0t : (I3 rd 0).toInt = x2_.toInt := congrArg Int32.toInt hv0
  exact r_iret hC hQ hlk hr rfl (by decide) (by decide) dX8_forget_17 ⟨_, _, rfl, rfl, ⟨hs3, hF3, (by omega), (by omega)⟩⟩
set_option maxHeartbeats 4000000 in
set_option maxRecDepth 100000 in
theorem f_X8_size (g : GG) (l : Launch) (K len : Nat → Nat) (I : Nat → Nat → Int32) (J : Nat → Nat → Int64) (R : Nat → Nat → Option Nat) (hs : Sf K len I R) (a0 : Nat) (ka0 : K a0 = 9) (x1 : Int32) (h : Nat) (hh : R a0 2 = some h) (kh : K h = 2) (lk : Nat) (hlk2 : R h 0 = some lk) (klk : K lk = 3) (rd : Nat) (hrd : R a0 9 = some rd) (krd : K rd = 4) (tp : Nat) (htp : R a0 0 = some tp) (hkt : K tp = 6) : Ct g l yX8_size cX8_size 2 (Option.some Jvm.ClassFile.FieldType.int) rmX8_size [.ref a0, .int x1] (K, len, I, J, R) (pI0 (K, len, I, J, R) (fun r => ((x1.toInt = 0 → r.toInt = (I h 1).toInt)) ∧ ((x1.toInt = 1 → r.toInt = (I lk 4).toInt)) ∧ ((x1.toInt = 2 → r.toInt = (I h 4).toInt)) ∧ ((x1.toInt = 3 → r.toInt = (I h 6).toInt)) ∧ ((x1.toInt = 4 → r.toInt = (I h 8).toInt)) ∧ ((x1.toInt = 5 → r.toInt = (I h 12).toInt)) ∧ ((x1.toInt = 6 → r.toInt = (I rd 0).toInt)) ∧ ((x1.toInt = 7 → r.toInt = (I tp 1).toInt)) ∧ ((x1.toInt = 8 → r.toInt = (I lk 1).toInt)) ∧ ((x1.toInt = 9 → r.toInt = (I lk 3).toInt)) ∧ ((x1.toInt < 0 ∨ 9 < x1.toInt → r.toInt = -1)))) := by
  refine Ct_intro (by decide +kernel) (Nat.le_of_ble_eq_true rfl) (fun X hC hL hKK hNm hr hlk hQ => ?_)
  subst hL
  have hC : Cx g X cX8_size "HillTap" 2 rmX8_size := hC
  show P g X 2 0 [(0, .ref a0), (1, .int x1)] [] 0 0 (K, len, I, J, R)
  have hF : Fr K [] I I := Fr.refl
  have b_x1 := ti_rng x1
  refine r_iload_n hC dX8_size_0 1 rfl ?_
  by_cases o1 : x1.toInt < 0 ∨ 9 < x1.toInt
  · refine r_tabOut hC (tgt := 145) dX8_size_1 o1 (by decide) ?_
    refine r_iconst hC (v := (-1)) dX8_size_145 (by decide) (by decide) (fun x2_ e2 t2 => ?_)
    exact r_iret hC hQ hlk hr rfl (by decide) (by decide) dX8_size_146 ⟨_, rfl, rfl, ⟨(by first | (intro h9; omega)), (by first | (intro h9; omega)), (by first | (intro h9; omega)), (by first | (intro h9; omega)), (by first | (intro h9; omega)), (by first | (intro h9; omega)), (by first | (intro h9; omega)), (by first | (intro h9; omega)), (by first | (intro h9; omega)), (by first | (intro h9; omega)), (by first | (intro h9; omega))⟩⟩
  · rcases (show x1.toInt = 0 ∨ x1.toInt = 1 ∨ x1.toInt = 2 ∨ x1.toInt = 3 ∨ x1.toInt = 4 ∨ x1.toInt = 5 ∨ x1.toInt = 6 ∨ x1.toInt = 7 ∨ x1.toInt = 8 ∨ x1.toInt = 9 by omega) with o1 | o1 | o1 | o1 | o1 | o1 | o1 | o1 | o1 | o1
    · refine r_tabIn hC (tgt := 56) (off := 55) dX8_size_1 (by omega) (by omega) (by rw [o1]; decide) (by decide) ?_
      refine r_aload_n hC dX8_size_56 0 rfl ?_
      refine r_getr hC 2 (ci := 8) rfl u8_in (by decide) mT_2_80 dX8_size_57 ka0 rfl rfl hh ?_
      refine r_geti hC 1 (ci := 1) rfl u1_in (by decide) mT_1_187 dX8_size_60 kh rfl rfl (fun x3_ e3 => ?_)
      have r3 := hs.rng kh rfl e3
      have f3 : x3_.toInt = (I h 1).toInt := by rw [e3]
      exact r_iret hC hQ hlk hr rfl (by decide) (by decide) dX8_size_63 ⟨_, rfl, rfl, ⟨(by first | (intro h9; omega)), (by first | (intro h9; omega)), (by first | (intro h9; omega)), (by first | (intro h9; omega)), (by first | (intro h9; omega)), (by first | (intro h9; omega)), (by first | (intro h9; omega)), (by first | (intro h9; omega)), (by first | (intro h9; omega)), (by first | (intro h9; omega)), (by first | (intro h9; omega))⟩⟩
    · refine r_tabIn hC (tgt := 64) (off := 63) dX8_size_1 (by omega) (by omega) (by rw [o1]; decide) (by decide) ?_
      refine r_aload_n hC dX8_size_64 0 rfl ?_
      refine r_getr hC 2 (ci := 8) rfl u8_in (by decide) mT_2_80 dX8_size_65 ka0 rfl rfl hh ?_
      refine r_getr hC 0 (ci := 1) rfl u1_in (by decide) mT_1_182 dX8_size_68 kh rfl rfl hlk2 ?_
      refine r_geti hC 4 (ci := 2) rfl u2_in (by decide) mT_1_130 dX8_size_71 klk rfl rfl (fun x4_ e4 => ?_)
      have r4 := hs.rng klk rfl e4
      have f4 : x4_.toInt = (I lk 4).toInt := by rw [e4]
      exact r_iret hC hQ hlk hr rfl (by decide) (by decide) dX8_size_74 ⟨_, rfl, rfl, ⟨(by first | (intro h9; omega)), (by first | (intro h9; omega)), (by first | (intro h9; omega)), (by first | (intro h9; omega)), (by first | (intro h9; omega)), (by first | (intro h9; omega)), (by first | (intro h9; omega)), (by first | (intro h9; omega)), (by first | (intro h9; omega)), (by first | (intro h9; omega)), (by first | (intro h9; omega))⟩⟩
    · refine r_tabIn hC (tgt := 75) (off := 74) dX8_size_1 (by omega) (by omega) (by rw [o1]; decide) (by decide) ?_
      refine r_aload_n hC dX8_size_75 0 rfl ?_
      refine r_getr hC 2 (ci := 8) rfl u8_in (by decide) mT_2_80 dX8_size_76 ka0 rfl rfl hh ?_
      refine r_geti hC 4 (ci := 1) rfl u1_in (by decide) mT_1_196 dX8_size_79 kh rfl rfl (fun x5_ e5 => ?_)
      have r5 := hs.rng kh rfl e5
      have f5 : x5_.toInt = (I h 4).toInt := by rw [e5]
      exact r_iret hC hQ hlk hr rfl (by decide) (by decide) dX8_size_82 ⟨_, rfl, rfl, ⟨(by first | (intro h9; omega)), (by first | (intro h9; omega)), (by first | (intro h9; omega)), (by first | (intro h9; omega)), (by first | (intro h9; omega)), (by first | (intro h9; omega)), (by first | (intro h9; omega)), (by first | (intro h9; omega)), (by first | (intro h9; omega)), (by first | (intro h9; omega)), (by first | (intro h9; omega))⟩⟩
    · refine r_tabIn hC (tgt := 83) (off := 82) dX8_size_1 (by omega) (by omega) (by rw [o1]; decide) (by decide) ?_
      refine r_aload_n hC dX8_size_83 0 rfl ?_
      refine r_getr hC 2 (ci := 8) rfl u8_in (by decide) mT_2_80 dX8_size_84 ka0 rfl rfl hh ?_
      refine r_geti hC 6 (ci := 1) rfl u1_in (by decide) mT_1_202 dX8_size_87 kh rfl rfl (fun x6_ e6 => ?_)
      have r6 := hs.rng kh rfl e6
      have f6 : x6_.toInt = (I h 6).toInt := by rw [e6]
      exact r_iret hC hQ hlk hr rfl (by decide) (by decide) dX8_size_90 ⟨_, rfl, rfl, ⟨(by first | (intro h9; omega)), (by first | (intro h9; omega)), (by first | (intro h9; omega)), (by first | (intro h9; omega)), (by first | (intro h9; omega)), (by first | (intro h9; omega)), (by first | (intro h9; omega)), (by first | (intro h9; omega)), (by first | (intro h9; omega)), (by first | (intro h9; omega)), (by first | (intro h9; omega))⟩⟩
    · refine r_tabIn hC (tgt := 91) (off := 90) dX8_size_1 (by omega) (by omega) (by rw [o1]; decide) (by decide) ?_
      refine r_aload_n hC dX8_size_91 0 rfl ?_
      refine r_getr hC 2 (ci := 8) rfl u8_in (by decide) mT_2_80 dX8_size_92 ka0 rfl rfl hh ?_
      refine r_geti hC 8 (ci := 1) rfl u1_in (by decide) mT_1_208 dX8_size_95 kh rfl rfl (fun x7_ e7 => ?_)
      have r7 := hs.rng kh rfl e7
      have f7 : x7_.toInt = (I h 8).toInt := by rw [e7]
      exact r_iret hC hQ hlk hr rfl (by decide) (by decide) dX8_size_98 ⟨_, rfl, rfl, ⟨(by first | (intro h9; omega)), (by first | (intro h9; omega)), (by first | (intro h9; omega)), (by first | (intro h9; omega)), (by first | (intro h9; omega)), (by first | (intro h9; omega)), (by first | (intro h9; omega)), (by first | (intro h9; omega)), (by first | (intro h9; omega)), (by first | (intro h9; omega)), (by first | (intro h9; omega))⟩⟩
    · refine r_tabIn hC (tgt := 99) (off := 98) dX8_size_1 (by omega) (by omega) (by rw [o1]; decide) (by decide) ?_
      refine r_aload_n hC dX8_size_99 0 rfl ?_
      refine r_getr hC 2 (ci := 8) rfl u8_in (by decide) mT_2_80 dX8_size_100 ka0 rfl rfl hh ?_
      refine r_geti hC 12 (ci := 1) rfl u1_in (by decide) mT_1_220 dX8_size_103 kh rfl rfl (fun x8_ e8 => ?_)
      have r8 := hs.rng kh rfl e8
      have f8 : x8_.toInt = (I h 12).toInt := by rw [e8]
      exact r_iret hC hQ hlk hr rfl (by decide) (by decide) dX8_size_106 ⟨_, rfl, rfl, ⟨(by first | (intro h9; omega)), (by first | (intro h9; omega)), (by first | (intro h9; omega)), (by first | (intro h9; omega)), (by first | (intro h9; omega)), (by first | (intro h9; omega)), (by first | (intro h9; omega)), (by first | (intro h9; omega)), (by first | (intro h9; omega)), (by first | (intro h9; omega)), (by first | (intro h9; omega))⟩⟩
    · refine r_tabIn hC (tgt := 107) (off := 106) dX8_size_1 (by omega) (by omega) (by rw [o1]; decide) (by decide) ?_
      refine r_aload_n hC dX8_size_107 0 rfl ?_
      refine r_getr hC 9 (ci := 8) rfl u8_in (by decide) mT_2_87 dX8_size_108 ka0 rfl rfl hrd ?_
      refine r_geti hC 0 (ci := 3) rfl u3_in (by decide) mT_2_61 dX8_size_111 krd rfl rfl (fun x9_ e9 => ?_)
      have r9 := hs.rng krd rfl e9
      have f9 : x9_.toInt = (I rd 0).toInt := by rw [e9]
      exact r_iret hC hQ hlk hr rfl (by decide) (by decide) dX8_size_114 ⟨_, rfl, rfl, ⟨(by first | (intro h9; omega)), (by first | (intro h9; omega)), (by first | (intro h9; omega)), (by first | (intro h9; omega)), (by first | (intro h9; omega)), (by first | (intro h9; omega)), (by first | (intro h9; omega)), (by first | (intro h9; omega)), (by first | (intro h9; omega)), (by first | (intro h9; omega)), (by first | (intro h9; omega))⟩⟩
    · refine r_tabIn hC (tgt := 115) (off := 114) dX8_size_1 (by omega) (by omega) (by rw [o1]; decide) (by decide) ?_
      refine r_aload_n hC dX8_size_115 0 rfl ?_
      refine r_getr hC 0 (ci := 8) rfl u8_in (by decide) mT_2_78 dX8_size_116 ka0 rfl rfl htp ?_
      refine r_geti hC 1 (ci := 5) rfl u5_in (by decide) mT_1_38 dX8_size_119 hkt rfl rfl (fun x10_ e10 => ?_)
      have r10 := hs.rng hkt rfl e10
      have f10 : x10_.toInt = (I tp 1).toInt := by rw [e10]
      exact r_iret hC hQ hlk hr rfl (by decide) (by decide) dX8_size_122 ⟨_, rfl, rfl, ⟨(by first | (intro h9; omega)), (by first | (intro h9; omega)), (by first | (intro h9; omega)), (by first | (intro h9; omega)), (by first | (intro h9; omega)), (by first | (intro h9; omega)), (by first | (intro h9; omega)), (by first | (intro h9; omega)), (by first | (intro h9; omega)), (by first | (intro h9; omega)), (by first | (intro h9; omega))⟩⟩
    · refine r_tabIn hC (tgt := 123) (off := 122) dX8_size_1 (by omega) (by omega) (by rw [o1]; decide) (by decide) ?_
      refine r_aload_n hC dX8_size_123 0 rfl ?_
      refine r_getr hC 2 (ci := 8) rfl u8_in (by decide) mT_2_80 dX8_size_124 ka0 rfl rfl hh ?_
      refine r_getr hC 0 (ci := 1) rfl u1_in (by decide) mT_1_182 dX8_size_127 kh rfl rfl hlk2 ?_
      refine r_geti hC 1 (ci := 2) rfl u2_in (by decide) mT_1_122 dX8_size_130 klk rfl rfl (fun x11_ e11 => ?_)
      have f11 : x11_.toInt = (I lk 1).toInt := by rw [e11]
      exact r_iret hC hQ hlk hr rfl (by decide) (by decide) dX8_size_133 ⟨_, rfl, rfl, ⟨(by first | (intro h9; omega)), (by first | (intro h9; omega)), (by first | (intro h9; omega)), (by first | (intro h9; omega)), (by first | (intro h9; omega)), (by first | (intro h9; omega)), (by first | (intro h9; omega)), (by first | (intro h9; omega)), (by first | (intro h9; omega)), (by first | (intro h9; omega)), (by first | (intro h9; omega))⟩⟩
    · refine r_tabIn hC (tgt := 134) (off := 133) dX8_size_1 (by omega) (by omega) (by rw [o1]; decide) (by decide) ?_
      refine r_aload_n hC dX8_size_134 0 rfl ?_
      refine r_getr hC 2 (ci := 8) rfl u8_in (by decide) mT_2_80 dX8_size_135 ka0 rfl rfl hh ?_
      refine r_getr hC 0 (ci := 1) rfl u1_in (by decide) mT_1_182 dX8_size_138 kh rfl rfl hlk2 ?_
      refine r_geti hC 3 (ci := 2) rfl u2_in (by decide) mT_1_127 dX8_size_141 klk rfl rfl (fun x12_ e12 => ?_)
      have f12 : x12_.toInt = (I lk 3).toInt := by rw [e12]
      exact r_iret hC hQ hlk hr rfl (by decide) (by decide) dX8_size_144 ⟨_, rfl, rfl, ⟨(by first | (intro h9; omega)), (by first | (intro h9; omega)), (by first | (intro h9; omega)), (by first | (intro h9; omega)), (by first | (intro h9; omega)), (by first | (intro h9; omega)), (by first | (intro h9; omega)), (by first | (intro h9; omega)), (by first | (intro h9; omega)), (by first | (intro h9; omega)), (by first | (intro h9; omega))⟩⟩
set_option maxHeartbeats 4000000 in
set_option maxRecDepth 100000 in
theorem f_X10_isDay (g : GG) (l : Launch) (K len : Nat → Nat) (I : Nat → Nat → Int32) (J : Nat → Nat → Int64) (R : Nat → Nat → Option Nat) (hs : Sf K len I R) (a0 : Nat) (ka0 : K a0 = 11) (x1 : Int32) : Ct g l yX10_isDay cX10_isDay 2 (Option.some Jvm.ClassFile.FieldType.boolean) rmX10_isDay [.ref a0, .int x1] (K, len, I, J, R) (pI0 (K, len, I, J, R) (fun r => ((R a0 3 = none ∧ r.toInt = 0) ∨ (∃ hm, R a0 3 = some hm ∧ (r.toInt = 1 ∧ (0 ≤ x1.toInt ∧ x1.toInt ≤ 59) ∨ r.toInt = 0 ∧ ¬ (0 ≤ x1.toInt ∧ x1.toInt ≤ 59)))))) := by
  refine Ct_intro (by decide +kernel) (Nat.le_of_ble_eq_true rfl) (fun X hC hL hKK hNm hr hlk hQ => ?_)
  subst hL
  have hC : Cx g X cX10_isDay "HillTapModel" 2 rmX10_isDay := hC
  show P g X 2 0 [(0, .ref a0), (1, .int x1)] [] 0 0 (K, len, I, J, R)
  have hF : Fr K [] I I := Fr.refl
  have b_x1 := ti_rng x1
  refine r_aload_n hC dX10_isDay_0 0 rfl ?_
  rcases hs.2.1.2.2.1 a0 ka0 with hz1 | ⟨a1_, hb1, hk1⟩
  · refine r_getz hC 3 (ci := 10) rfl u10_in (by decide) mT_4_238 dX10_isDay_1 ka0 rfl rfl hz1 ?_
    refine r_ifnullN hC (tgt := 21) dX10_isDay_4 (by decide) ?_
    refine r_iconst hC (v := (0)) dX10_isDay_21 (by decide) (by decide) (fun x2_ e2 t2 => ?_)
    exact r_iret hC hQ hlk hr (by rw [e2]; rfl) (by decide) (by decide) dX10_isDay_22 ⟨_, rfl, rfl, (by first | exact Or.inl ⟨hz1, by omega⟩ | exact Or.inr ⟨_, hz1, by omega⟩)⟩
  · refine r_getr hC 3 (ci := 10) rfl u10_in (by decide) mT_4_238 dX10_isDay_1 ka0 rfl rfl hb1 ?_
    refine r_ifnull hC dX10_isDay_4 ?_
    refine r_iload_n hC dX10_isDay_7 1 rfl ?_
    refine r_if_lt hC (tgt := 21) dX10_isDay_8 (by decide) (fun c3 => ?_) (fun c3 => ?_)
    · refine r_iconst hC (v := (0)) dX10_isDay_21 (by decide) (by decide) (fun x4_ e4 t4 => ?_)
      exact r_iret hC hQ hlk hr (by rw [e4]; rfl) (by decide) (by decide) dX10_isDay_22 ⟨_, rfl, rfl, (by first | exact Or.inl ⟨hb1, by omega⟩ | exact Or.inr ⟨_, hb1, by omega⟩)⟩
    · refine r_iload_n hC dX10_isDay_11 1 rfl ?_
      refine r_bipush hC (v := (60)) dX10_isDay_12 (by decide) (by decide) (fun x5_ e5 t5 => ?_)
      refine r_icmp_ge hC (tgt := 21) dX10_isDay_14 (by decide) (fun c6 => ?_) (fun c6 => ?_)
      · refine r_iconst hC (v := (0)) dX10_isDay_21 (by decide) (by decide) (fun x7_ e7 t7 => ?_)
        exact r_iret hC hQ hlk hr (by rw [e7]; rfl) (by decide) (by decide) dX10_isDay_22 ⟨_, rfl, rfl, (by first | exact Or.inl ⟨hb1, by omega⟩ | exact Or.inr ⟨_, hb1, by omega⟩)⟩
      · refine r_iconst hC (v := (1)) dX10_isDay_17 (by decide) (by decide) (fun x8_ e8 t8 => ?_)
        refine r_goto hC (tgt := 22) dX10_isDay_18 (by decide) ?_
        exact r_iret hC hQ hlk hr (by rw [e8]; rfl) (by decide) (by decide) dX10_isDay_22 ⟨_, rfl, rfl, (by first | exact Or.inl ⟨hb1, by omega⟩ | exact Or.inr ⟨_, hb1, by omega⟩)⟩
set_option maxHeartbeats 4000000 in
set_option maxRecDepth 100000 in
theorem f_X10_isPeg (g : GG) (l : Launch) (K len : Nat → Nat) (I : Nat → Nat → Int32) (J : Nat → Nat → Int64) (R : Nat → Nat → Option Nat) (hs : Sf K len I R) (a0 : Nat) (ka0 : K a0 = 11) (x1 : Int32) : Ct g l yX10_isPeg cX10_isPeg 2 (Option.some Jvm.ClassFile.FieldType.boolean) rmX10_isPeg [.ref a0, .int x1] (K, len, I, J, R) (pI0 (K, len, I, J, R) (fun r => ((R a0 3 = none ∧ r.toInt = 0) ∨ (∃ hm, R a0 3 = some hm ∧ (r.toInt = 1 ∧ (0 ≤ x1.toInt ∧ x1.toInt < (I hm 3).toInt) ∨ r.toInt = 0 ∧ ¬ (0 ≤ x1.toInt ∧ x1.toInt < (I hm 3).toInt)))))) := by
  refine Ct_intro (by decide +kernel) (Nat.le_of_ble_eq_true rfl) (fun X hC hL hKK hNm hr hlk hQ => ?_)
  subst hL
  have hC : Cx g X cX10_isPeg "HillTapModel" 2 rmX10_isPeg := hC
  show P g X 2 0 [(0, .ref a0), (1, .int x1)] [] 0 0 (K, len, I, J, R)
  have hF : Fr K [] I I := Fr.refl
  have b_x1 := ti_rng x1
  refine r_aload_n hC dX10_isPeg_0 0 rfl ?_
  rcases hs.2.1.2.2.1 a0 ka0 with hz1 | ⟨a1_, hb1, hk1⟩
  · refine r_getz hC 3 (ci := 10) rfl u10_in (by decide) mT_4_238 dX10_isPeg_1 ka0 rfl rfl hz1 ?_
    refine r_ifnullN hC (tgt := 26) dX10_isPeg_4 (by decide) ?_
    refine r_iconst hC (v := (0)) dX10_isPeg_26 (by decide) (by decide) (fun x2_ e2 t2 => ?_)
    exact r_iret hC hQ hlk hr (by rw [e2]; rfl) (by decide) (by decide) dX10_isPeg_27 ⟨_, rfl, rfl, (by first | exact Or.inl ⟨hz1, by omega⟩ | exact Or.inr ⟨_, hz1, by omega⟩)⟩
  · refine r_getr hC 3 (ci := 10) rfl u10_in (by decide) mT_4_238 dX10_isPeg_1 ka0 rfl rfl hb1 ?_
    refine r_ifnull hC dX10_isPeg_4 ?_
    refine r_iload_n hC dX10_isPeg_7 1 rfl ?_
    refine r_if_lt hC (tgt := 26) dX10_isPeg_8 (by decide) (fun c3 => ?_) (fun c3 => ?_)
    · refine r_iconst hC (v := (0)) dX10_isPeg_26 (by decide) (by decide) (fun x4_ e4 t4 => ?_)
      exact r_iret hC hQ hlk hr (by rw [e4]; rfl) (by decide) (by decide) dX10_isPeg_27 ⟨_, rfl, rfl, (by first | exact Or.inl ⟨hb1, by omega⟩ | exact Or.inr ⟨_, hb1, by omega⟩)⟩
    · refine r_iload_n hC dX10_isPeg_11 1 rfl ?_
      refine r_aload_n hC dX10_isPeg_12 0 rfl ?_
      refine r_getr hC 3 (ci := 10) rfl u10_in (by decide) mT_4_238 dX10_isPeg_13 ka0 rfl rfl hb1 ?_
      refine r_getiN hC 3 (ci := 9) rfl u9_in (by decide) nF_3 dX10_isPeg_16 hk1 rfl rfl (fun x5_ e5 => ?_)
      have r5 := hs.rng hk1 rfl e5
      have f5 : x5_.toInt = (I a1_ 3).toInt := by rw [e5]
      refine r_icmp_ge hC (tgt := 26) dX10_isPeg_19 (by decide) (fun c6 => ?_) (fun c6 => ?_)
      · refine r_iconst hC (v := (0)) dX10_isPeg_26 (by decide) (by decide) (fun x7_ e7 t7 => ?_)
        exact r_iret hC hQ hlk hr (by rw [e7]; rfl) (by decide) (by decide) dX10_isPeg_27 ⟨_, rfl, rfl, (by first | exact Or.inl ⟨hb1, by omega⟩ | exact Or.inr ⟨_, hb1, by omega⟩)⟩
      · refine r_iconst hC (v := (1)) dX10_isPeg_22 (by decide) (by decide) (fun x8_ e8 t8 => ?_)
        refine r_goto hC (tgt := 27) dX10_isPeg_23 (by decide) ?_
        exact r_iret hC hQ hlk hr (by rw [e8]; rfl) (by decide) (by decide) dX10_isPeg_27 ⟨_, rfl, rfl, (by first | exact Or.inl ⟨hb1, by omega⟩ | exact Or.inr ⟨_, hb1, by omega⟩)⟩
set_option maxHeartbeats 4000000 in
set_option maxRecDepth 100000 in
theorem f_X10_plan (g : GG) (l : Launch) (K len : Nat → Nat) (I : Nat → Nat → Int32) (J : Nat → Nat → Int64) (R : Nat → Nat → Option Nat) (hs : Sf K len I R) (a0 : Nat) (ka0 : K a0 = 11) (x1 : Int32) (x2 : Int32) (D : DD) (hmx : ∀ hm, R a0 3 = some hm → RW (CM hm R) (cntN D) D I ∧ (I hm 4).toInt = D 0 4) : Ct g l yX10_plan cX10_plan 3 (Option.some Jvm.ClassFile.FieldType.int) rmX10_plan [.ref a0, .int x1, .int x2] (K, len, I, J, R) (pI1 (K, len, I, J, R) (fun r I' => Sf K len I' R ∧ Fr K [(10, 4), (11, 0), (11, 1), (11, 2), (72, 999), (73, 999)] I I' ∧ ((R a0 3 = none ∧ r.toInt = -1) ∨ (∃ hm, R a0 3 = some hm ∧ (((0 ≤ x1.toInt ∧ x1.toInt ≤ 59 ∧ 0 ≤ x2.toInt ∧ x2.toInt ≤ 999 ∧ (I hm 4).toInt < 16) ∧ r.toInt = (I hm 4).toInt + 1 ∧ (I' hm 4).toInt = (I hm 4).toInt + 1) ∨ (¬ (0 ≤ x1.toInt ∧ x1.toInt ≤ 59 ∧ 0 ≤ x2.toInt ∧ x2.toInt ≤ 999 ∧ (I hm 4).toInt < 16) ∧ r.toInt = -1 ∧ (I' hm 4).toInt = (I hm 4).toInt)))) ∧ (∀ hm, R a0 3 = some hm → ((0 ≤ x1.toInt ∧ x1.toInt ≤ 59 ∧ 0 ≤ x2.toInt ∧ x2.toInt ≤ 999 ∧ (I hm 4).toInt < 16) → RW (CM hm R) (cntN (aFrom D x1.toInt x2.toInt)) (aFrom D x1.toInt x2.toInt) I') ∧ (¬ (0 ≤ x1.toInt ∧ x1.toInt ≤ 59 ∧ 0 ≤ x2.toInt ∧ x2.toInt ≤ 999 ∧ (I hm 4).toInt < 16) → RW (CM hm R) (cntN D) D I')) ∧ ((I' a0 2).toInt = -1))) := by
  refine Ct_intro (by decide +kernel) (Nat.le_of_ble_eq_true rfl) (fun X hC hL hKK hNm hr hlk hQ => ?_)
  subst hL
  have hC : Cx g X cX10_plan "HillTapModel" 3 rmX10_plan := hC
  show P g X 3 0 [(0, .ref a0), (1, .int x1), (2, .int x2)] [] 0 0 (K, len, I, J, R)
  have hF : Fr K [(10, 4), (11, 0), (11, 1), (11, 2), (72, 999), (73, 999)] I I := Fr.refl
  have b_x1 := ti_rng x1
  have b_x2 := ti_rng x2
  rcases hs.2.1.2.2.1 a0 ka0 with hz | ⟨hm, hbm, khm⟩
  · refine r_aload_n hC dX10_plan_0 0 rfl ?_
    refine r_iconst hC (v := (0)) dX10_plan_1 (by decide) (by decide) (fun x1_ e1 t1 => ?_)
    refine r_puti hC 0 (ci := 10) rfl u10_in tyX10_ok nmX10 (by decide) mT_4_235 rfl rfl rfl dX10_plan_2 ka0 rfl rfl (fun I2 eI2 => ?_)
    have hs2 := hs.put0 eI2 ka0 rfl rfl rfl (by decide)
    have hF2 := hF.put eI2 ka0 rfl
    refine r_aload_n hC dX10_plan_5 0 rfl ?_
    refine r_getz hC 3 (ci := 10) rfl u10_in (by decide) mT_4_238 dX10_plan_6 ka0 rfl rfl hz ?_
    refine r_ifnonnullN hC dX10_plan_9 ?_
    refine r_aload_n hC dX10_plan_12 0 rfl ?_
    refine r_iconst hC (v := (1)) dX10_plan_13 (by decide) (by decide) (fun x3_ e3 t3 => ?_)
    refine r_callV hC (As := [.int x3_]) (rest := []) (ci := 10) (c_X10_refused g (xL X) K len I2 J R hs2 a0 ka0 x3_) mT_5_85 mT_1_10 mT_5_82 mT_5_84 mP_48 okX10_refused ⟨by decide, by decide⟩ rfl (by show kO (K a0) = _; rw [ka0]; rfl) rfl rfl (Nat.le_of_ble_eq_true rfl) ⟨by decide, by decide⟩ dX10_plan_14 (aI1 (F := fun st M => P g X 3 17 [(0, .ref a0), (1, .int x1), (2, .int x2)] st _ _ M) (M := (K, len, I2, J, R)) fun x4_ I4 h4 => ?_)
    obtain ⟨hs4, hf4, k4_0, k4_1, k4_2⟩ := h4
    show P g X 3 17 [(0, .ref a0), (1, .int x1), (2, .int x2)] [.int x4_] _ _ (K, len, I4, J, R)
    have hF4 : Fr K [(10, 4), (11, 0), (11, 1), (11, 2), (72, 999), (73, 999)] I I4 := hF2.trans hf4 rfl rfl
    exact r_iret hC hQ hlk hr rfl (by decide) (by decide) dX10_plan_17 ⟨_, _, rfl, rfl, ⟨hs4, hF4, (by first | exact Or.inl ⟨hz, by omega⟩ | exact Or.inr ⟨hm, hbm, Or.inr ⟨by omega, by omega, by omega⟩⟩ | exact Or.inr ⟨hm, hbm, Or.inl ⟨by omega, by have h9 := congrArg Int32.toInt k4_0; omega, by omega⟩⟩), (by first | exact fun z hz9 => by rw [hz] at hz9; cases hz9 | exact fun z hz9 => by rw [hbm] at hz9; cases hz9; first | exact ⟨fun h9 => by exfalso; omega, fun _ => NOrwd⟩ | exact ⟨fun _ => NOrwd.frm (by omega), fun h9 => by exfalso; omega⟩), (by omega)⟩⟩
  · obtain ⟨S0, eS0⟩ : ∃ z : Int32, z = I hm 7 := ⟨_, rfl⟩
    have fS0 : S0.toInt = (I hm 7).toInt := by rw [eS0]
    have rS0 := hs.rng khm rfl eS0
    obtain ⟨F4, eF4⟩ : ∃ z : Int32, z = I hm 4 := ⟨_, rfl⟩
    have fF4 : F4.toInt = (I hm 4).toInt := by rw [eF4]
    have rF4 := hs.rng khm rfl eF4
    obtain ⟨rwd, hdx⟩ := hmx hm hbm
    have hcx := CM_x hs khm
    refine r_aload_n hC dX10_plan_0 0 rfl ?_
    refine r_iconst hC (v := (0)) dX10_plan_1 (by decide) (by decide) (fun x5_ e5 t5 => ?_)
    refine r_puti hC 0 (ci := 10) rfl u10_in tyX10_ok nmX10 (by decide) mT_4_235 rfl rfl rfl dX10_plan_2 ka0 rfl rfl (fun I6 eI6 => ?_)
    have hs6 := hs.put0 eI6 ka0 rfl rfl rfl (by decide)
    have hF6 := hF.put eI6 ka0 rfl
    have rw6 := rwd.putO hcx eI6 ka0 rfl
    refine r_aload_n hC dX10_plan_5 0 rfl ?_
    refine r_getr hC 3 (ci := 10) rfl u10_in (by decide) mT_4_238 dX10_plan_6 ka0 rfl rfl hbm ?_
    refine r_ifnonnull hC (tgt := 18) dX10_plan_9 (by decide) ?_
    refine r_iload_n hC dX10_plan_18 1 rfl ?_
    refine r_iconst hC (v := (0)) dX10_plan_19 (by decide) (by decide) (fun x7_ e7 t7 => ?_)
    refine r_bipush hC (v := (59)) dX10_plan_20 (by decide) (by decide) (fun x8_ e8 t8 => ?_)
    refine r_callS hC (As := [.int x1, .int x7_, .int x8_]) (rest := []) (f_X10_in g (xL X) K len I6 J R hs6 x1 x7_ x8_) mT_6_8 mT_1_10 mT_6_6 mT_6_7 okX10_in ⟨by decide, by decide⟩ rfl rfl (Nat.le_of_ble_eq_true rfl) ⟨by decide, by decide⟩ dX10_plan_22 (aI0 (F := fun st M => P g X 3 25 [(0, .ref a0), (1, .int x1), (2, .int x2)] st _ _ M) (M := (K, len, I6, J, R)) fun x9_ h9 => ?_)
    have k9_0 := h9
    clear h9
    show P g X 3 25 [(0, .ref a0), (1, .int x1), (2, .int x2)] [.int x9_] _ _ (K, len, I6, J, R)
    rcases k9_0 with ⟨hr9, hw9⟩ | ⟨hr9, hw9⟩
    · refine r_if_eq hC (tgt := 39) dX10_plan_25 (by decide) (fun c10 => ?_) (fun c10 => ?_)
      · exfalso; omega
      refine r_iload_n hC dX10_plan_28 2 rfl ?_
      refine r_iconst hC (v := (0)) dX10_plan_29 (by decide) (by decide) (fun x11_ e11 t11 => ?_)
      refine r_sipush hC (v := (999)) dX10_plan_30 (by decide) (by decide) (fun x12_ e12 t12 => ?_)
      refine r_callS hC (As := [.int x2, .int x11_, .int x12_]) (rest := []) (f_X10_in g (xL X) K len I6 J R hs6 x2 x11_ x12_) mT_6_8 mT_1_10 mT_6_6 mT_6_7 okX10_in ⟨by decide, by decide⟩ rfl rfl (Nat.le_of_ble_eq_true rfl) ⟨by decide, by decide⟩ dX10_plan_33 (aI0 (F := fun st M => P g X 3 36 [(0, .ref a0), (1, .int x1), (2, .int x2)] st _ _ M) (M := (K, len, I6, J, R)) fun x13_ h13 => ?_)
      have k13_0 := h13
      clear h13
      show P g X 3 36 [(0, .ref a0), (1, .int x1), (2, .int x2)] [.int x13_] _ _ (K, len, I6, J, R)
      rcases k13_0 with ⟨hr13, hw13⟩ | ⟨hr13, hw13⟩
      · refine r_if_ne hC (tgt := 45) dX10_plan_36 (by decide) (fun c14 => ?_) (fun c14 => ?_)
        rotate_left
        · exfalso; omega
        refine r_aload_n hC dX10_plan_45 0 rfl ?_
        refine r_getr hC 3 (ci := 10) rfl u10_in (by decide) mT_4_238 dX10_plan_46 ka0 rfl rfl hbm ?_
        refine r_getiN hC 4 (ci := 9) rfl u9_in (by decide) nF_4 dX10_plan_49 khm rfl rfl (fun x15_ e15 => ?_)
        have r15 := hs6.rng khm rfl e15
        have f15 : x15_.toInt = (I6 hm 4).toInt := by rw [e15]
        have w15 : x15_ = F4 := by rw [e15]; exact (Eq.trans (up2_kk eI6 ka0 khm (by decide)) eF4.symm)
        have wt15 : x15_.toInt = F4.toInt := by rw [w15]
        refine r_bipush hC (v := (16)) dX10_plan_52 (by decide) (by decide) (fun x16_ e16 t16 => ?_)
        refine r_icmp_ne hC (tgt := 63) dX10_plan_54 (by decide) (fun c17 => ?_) (fun c17 => ?_)
        · refine r_aload_n hC dX10_plan_63 0 rfl ?_
          refine r_getr hC 3 (ci := 10) rfl u10_in (by decide) mT_4_238 dX10_plan_64 ka0 rfl rfl hbm ?_
          obtain ⟨a18_, hb18, hk18, hn18⟩ := hs6.row khm 13 72 16 (by decide) (by decide)
          refine r_getrN hC 13 (ci := 9) rfl u9_in (by decide) nF_13 dX10_plan_67 khm rfl rfl hb18 ?_
          refine r_aload_n hC dX10_plan_70 0 rfl ?_
          refine r_getr hC 3 (ci := 10) rfl u10_in (by decide) mT_4_238 dX10_plan_71 ka0 rfl rfl hbm ?_
          refine r_getiN hC 4 (ci := 9) rfl u9_in (by decide) nF_4 dX10_plan_74 khm rfl rfl (fun x19_ e19 => ?_)
          have r19 := hs6.rng khm rfl e19
          have f19 : x19_.toInt = (I6 hm 4).toInt := by rw [e19]
          have w19 : x19_ = x15_ := by rw [e19]; exact e15.symm
          have wt19 : x19_.toInt = x15_.toInt := by rw [w19]
          refine r_iload_n hC dX10_plan_77 1 rfl ?_
          refine x_iastore hC hk18 hn18 (by decide) rfl rfl dX10_plan_78 (by omega) (by omega) (fun I20 eI20 => ?_)
          have hs20 := hs6.put0 eI20 hk18 (rng_arr (by decide) _) rfl (xF_arr (by decide) _) (by decide)
          have hF20 := hF6.put eI20 hk18 (inS_arr rfl _)
          have eC20 := eI20
          rw [clx (show x19_.toInt = D 0 4 by omega) (show 0 ≤ D 0 4 by omega)] at eC20
          have rw20 := rw6.put hcx (r0 := 3) (j0 := (D 0 4).toNat) (w := x1.toInt) (cM (r := 3) (by decide) (by decide) hb18) eC20 rfl (by rw [cnt_3]; omega) (fun h9 => absurd h9 (by decide))
          refine r_aload_n hC dX10_plan_79 0 rfl ?_
          refine r_getr hC 3 (ci := 10) rfl u10_in (by decide) mT_4_238 dX10_plan_80 ka0 rfl rfl hbm ?_
          obtain ⟨a21_, hb21, hk21, hn21⟩ := hs20.row khm 14 73 16 (by decide) (by decide)
          refine r_getrN hC 14 (ci := 9) rfl u9_in (by decide) nF_14 dX10_plan_83 khm rfl rfl hb21 ?_
          refine r_aload_n hC dX10_plan_86 0 rfl ?_
          refine r_getr hC 3 (ci := 10) rfl u10_in (by decide) mT_4_238 dX10_plan_87 ka0 rfl rfl hbm ?_
          refine r_getiN hC 4 (ci := 9) rfl u9_in (by decide) nF_4 dX10_plan_90 khm rfl rfl (fun x22_ e22 => ?_)
          have r22 := hs20.rng khm rfl e22
          have f22 : x22_.toInt = (I20 hm 4).toInt := by rw [e22]
          have w22 : x22_ = x19_ := by rw [e22]; exact (Eq.trans (up2_kk eI20 hk18 khm (by decide)) e19.symm)
          have wt22 : x22_.toInt = x19_.toInt := by rw [w22]
          refine r_iload_n hC dX10_plan_93 2 rfl ?_
          refine x_iastore hC hk21 hn21 (by decide) rfl rfl dX10_plan_94 (by omega) (by omega) (fun I23 eI23 => ?_)
          have hs23 := hs20.put0 eI23 hk21 (rng_arr (by decide) _) rfl (xF_arr (by decide) _) (by decide)
          have hF23 := hF20.put eI23 hk21 (inS_arr rfl _)
          have eC23 := eI23
          rw [clx (show x22_.toInt = D 0 4 by omega) (show 0 ≤ D 0 4 by omega)] at eC23
          have rw23 := rw20.put hcx (r0 := 4) (j0 := (D 0 4).toNat) (w := x2.toInt) (cM (r := 4) (by decide) (by decide) hb21) eC23 rfl (by rw [upN_o (by decide), cnt_4]; omega) (fun h9 => absurd h9 (by decide))
          refine r_aload_n hC dX10_plan_95 0 rfl ?_
          refine r_getr hC 3 (ci := 10) rfl u10_in (by decide) mT_4_238 dX10_plan_96 ka0 rfl rfl hbm ?_
          refine r_dup hC dX10_plan_99 rfl ?_
          refine r_getiN hC 4 (ci := 9) rfl u9_in (by decide) nF_4 dX10_plan_100 khm rfl rfl (fun x24_ e24 => ?_)
          have r24 := hs23.rng khm rfl e24
          have f24 : x24_.toInt = (I23 hm 4).toInt := by rw [e24]
          have w24 : x24_ = x22_ := by rw [e24]; exact (Eq.trans (up2_kk eI23 hk21 khm (by decide)) e22.symm)
          have wt24 : x24_.toInt = x22_.toInt := by rw [w24]
          refine r_iconst hC (v := (1)) dX10_plan_103 (by decide) (by decide) (fun x25_ e25 t25 => ?_)
          refine r_iadd hC dX10_plan_104 (fun x26_ e26 => ?_)
          try have t26 : x26_.toInt = x24_.toInt + x25_.toInt := by rw [e26]; exact ti_add (by omega) (by omega)
          refine r_putiN hC 4 (ci := 9) rfl u9_in tyX9_ok nmX9 (by decide) nF_4 rfl rfl rfl dX10_plan_105 khm rfl rfl (fun I27 eI27 => ?_)
          have hs27 : Sf K len I27 R := hs23.putA4 eI27 khm (by omega) (by omega) (by have h9 := hs23.told khm; omega)
          have hF27 := hF23.put eI27 khm rfl
          have rw27 := rw23.putO hcx eI27 khm rfl
          refine r_aload_n hC dX10_plan_108 0 rfl ?_
          refine r_aload_n hC dX10_plan_109 0 rfl ?_
          refine r_getr hC 3 (ci := 10) rfl u10_in (by decide) mT_4_238 dX10_plan_110 ka0 rfl rfl hbm ?_
          refine r_getiN hC 4 (ci := 9) rfl u9_in (by decide) nF_4 dX10_plan_113 khm rfl rfl (fun x28_ e28 => ?_)
          have r28 := hs27.rng khm rfl e28
          have f28 : x28_.toInt = (I27 hm 4).toInt := by rw [e28]
          have w28 : x28_ = x26_ := by rw [e28]; exact (by rw [eI27]; exact up2_self _ _ _ _)
          have wt28 : x28_.toInt = x26_.toInt := by rw [w28]
          refine r_callV hC (As := [.int x28_]) (rest := []) (ci := 10) (c_X10_done g (xL X) K len I27 J R hs27 a0 ka0 x28_) mT_6_79 mT_1_10 mT_6_76 mT_6_78 mP_67 okX10_done ⟨by decide, by decide⟩ rfl (by show kO (K a0) = _; rw [ka0]; rfl) rfl rfl (Nat.le_of_ble_eq_true rfl) ⟨by decide, by decide⟩ dX10_plan_116 (aI1 (F := fun st M => P g X 3 119 [(0, .ref a0), (1, .int x1), (2, .int x2)] st _ _ M) (M := (K, len, I27, J, R)) fun x29_ I29 h29 => ?_)
          obtain ⟨hs29, hf29, k29_0, k29_1, k29_2⟩ := h29
          show P g X 3 119 [(0, .ref a0), (1, .int x1), (2, .int x2)] [.int x29_] _ _ (K, len, I29, J, R)
          have hF29 : Fr K [(10, 4), (11, 0), (11, 1), (11, 2), (72, 999), (73, 999)] I I29 := hF27.trans hf29 rfl rfl
          have rw29 := rw27.mv hcx qM_big hf29 rfl
          have hv4 : I29 hm 4 = x28_ := (Eq.trans (hf29.get khm rfl) e28.symm)
          have hv4t : (I29 hm 4).toInt = x28_.toInt := congrArg Int32.toInt hv4
          exact r_iret hC hQ hlk hr rfl (by decide) (by decide) dX10_plan_119 ⟨_, _, rfl, rfl, ⟨hs29, hF29, (by first | exact Or.inl ⟨hz, by omega⟩ | exact Or.inr ⟨hm, hbm, Or.inr ⟨by omega, by omega, by omega⟩⟩ | exact Or.inr ⟨hm, hbm, Or.inl ⟨by omega, by have h9 := congrArg Int32.toInt k29_0; omega, by omega⟩⟩), (by first | exact fun z hz9 => by rw [hz] at hz9; cases hz9 | exact fun z hz9 => by rw [hbm] at hz9; cases hz9; first | exact ⟨fun h9 => by exfalso; omega, fun _ => rw29⟩ | exact ⟨fun _ => rw29.frm (by omega), fun h9 => by exfalso; omega⟩), (by omega)⟩⟩
        · refine r_aload_n hC dX10_plan_57 0 rfl ?_
          refine r_iconst hC (v := (3)) dX10_plan_58 (by decide) (by decide) (fun x30_ e30 t30 => ?_)
          refine r_callV hC (As := [.int x30_]) (rest := []) (ci := 10) (c_X10_refused g (xL X) K len I6 J R hs6 a0 ka0 x30_) mT_5_85 mT_1_10 mT_5_82 mT_5_84 mP_48 okX10_refused ⟨by decide, by decide⟩ rfl (by show kO (K a0) = _; rw [ka0]; rfl) rfl rfl (Nat.le_of_ble_eq_true rfl) ⟨by decide, by decide⟩ dX10_plan_59 (aI1 (F := fun st M => P g X 3 62 [(0, .ref a0), (1, .int x1), (2, .int x2)] st _ _ M) (M := (K, len, I6, J, R)) fun x31_ I31 h31 => ?_)
          obtain ⟨hs31, hf31, k31_0, k31_1, k31_2⟩ := h31
          show P g X 3 62 [(0, .ref a0), (1, .int x1), (2, .int x2)] [.int x31_] _ _ (K, len, I31, J, R)
          have hF31 : Fr K [(10, 4), (11, 0), (11, 1), (11, 2), (72, 999), (73, 999)] I I31 := hF6.trans hf31 rfl rfl
          have rw31 := rw6.mv hcx qM_big hf31 rfl
          have hv4 : I31 hm 4 = x15_ := (Eq.trans (hf31.get khm rfl) e15.symm)
          have hv4t : (I31 hm 4).toInt = x15_.toInt := congrArg Int32.toInt hv4
          exact r_iret hC hQ hlk hr rfl (by decide) (by decide) dX10_plan_62 ⟨_, _, rfl, rfl, ⟨hs31, hF31, (by first | exact Or.inl ⟨hz, by omega⟩ | exact Or.inr ⟨hm, hbm, Or.inr ⟨by omega, by omega, by omega⟩⟩ | exact Or.inr ⟨hm, hbm, Or.inl ⟨by omega, by have h9 := congrArg Int32.toInt k31_0; omega, by omega⟩⟩), (by first | exact fun z hz9 => by rw [hz] at hz9; cases hz9 | exact fun z hz9 => by rw [hbm] at hz9; cases hz9; first | exact ⟨fun h9 => by exfalso; omega, fun _ => rw31⟩ | exact ⟨fun _ => rw31.frm (by omega), fun h9 => by exfalso; omega⟩), (by omega)⟩⟩
      · refine r_if_ne hC (tgt := 45) dX10_plan_36 (by decide) (fun c32 => ?_) (fun c32 => ?_)
        · exfalso; omega
        refine r_aload_n hC dX10_plan_39 0 rfl ?_
        refine r_iconst hC (v := (2)) dX10_plan_40 (by decide) (by decide) (fun x33_ e33 t33 => ?_)
        refine r_callV hC (As := [.int x33_]) (rest := []) (ci := 10) (c_X10_refused g (xL X) K len I6 J R hs6 a0 ka0 x33_) mT_5_85 mT_1_10 mT_5_82 mT_5_84 mP_48 okX10_refused ⟨by decide, by decide⟩ rfl (by show kO (K a0) = _; rw [ka0]; rfl) rfl rfl (Nat.le_of_ble_eq_true rfl) ⟨by decide, by decide⟩ dX10_plan_41 (aI1 (F := fun st M => P g X 3 44 [(0, .ref a0), (1, .int x1), (2, .int x2)] st _ _ M) (M := (K, len, I6, J, R)) fun x34_ I34 h34 => ?_)
        obtain ⟨hs34, hf34, k34_0, k34_1, k34_2⟩ := h34
        show P g X 3 44 [(0, .ref a0), (1, .int x1), (2, .int x2)] [.int x34_] _ _ (K, len, I34, J, R)
        have hF34 : Fr K [(10, 4), (11, 0), (11, 1), (11, 2), (72, 999), (73, 999)] I I34 := hF6.trans hf34 rfl rfl
        have rw34 := rw6.mv hcx qM_big hf34 rfl
        have hv4 : I34 hm 4 = F4 := (Eq.trans (hf34.get khm rfl) (Eq.trans (up2_kk eI6 ka0 khm (by decide)) eF4.symm))
        have hv4t : (I34 hm 4).toInt = F4.toInt := congrArg Int32.toInt hv4
        exact r_iret hC hQ hlk hr rfl (by decide) (by decide) dX10_plan_44 ⟨_, _, rfl, rfl, ⟨hs34, hF34, (by first | exact Or.inl ⟨hz, by omega⟩ | exact Or.inr ⟨hm, hbm, Or.inr ⟨by omega, by omega, by omega⟩⟩ | exact Or.inr ⟨hm, hbm, Or.inl ⟨by omega, by have h9 := congrArg Int32.toInt k34_0; omega, by omega⟩⟩), (by first | exact fun z hz9 => by rw [hz] at hz9; cases hz9 | exact fun z hz9 => by rw [hbm] at hz9; cases hz9; first | exact ⟨fun h9 => by exfalso; omega, fun _ => rw34⟩ | exact ⟨fun _ => rw34.frm (by omega), fun h9 => by exfalso; omega⟩), (by omega)⟩⟩
    · refine r_if_eq hC (tgt := 39) dX10_plan_25 (by decide) (fun c35 => ?_) (fun c35 => ?_)
      rotate_left
      · exfalso; omega
      refine r_aload_n hC dX10_plan_39 0 rfl ?_
      refine r_iconst hC (v := (2)) dX10_plan_40 (by decide) (by decide) (fun x36_ e36 t36 => ?_)
      refine r_callV hC (As := [.int x36_]) (rest := []) (ci := 10) (c_X10_refused g (xL X) K len I6 J R hs6 a0 ka0 x36_) mT_5_85 mT_1_10 mT_5_82 mT_5_84 mP_48 okX10_refused ⟨by decide, by decide⟩ rfl (by show kO (K a0) = _; rw [ka0]; rfl) rfl rfl (Nat.le_of_ble_eq_true rfl) ⟨by decide, by decide⟩ dX10_plan_41 (aI1 (F := fun st M => P g X 3 44 [(0, .ref a0), (1, .int x1), (2, .int x2)] st _ _ M) (M := (K, len, I6, J, R)) fun x37_ I37 h37 => ?_)
      obtain ⟨hs37, hf37, k37_0, k37_1, k37_2⟩ := h37
      show P g X 3 44 [(0, .ref a0), (1, .int x1), (2, .int x2)] [.int x37_] _ _ (K, len, I37, J, R)
      have hF37 : Fr K [(10, 4), (11, 0), (11, 1), (11, 2), (72, 999), (73, 999)] I I37 := hF6.trans hf37 rfl rfl
      have rw37 := rw6.mv hcx qM_big hf37 rfl
      have hv4 : I37 hm 4 = F4 := (Eq.trans (hf37.get khm rfl) (Eq.trans (up2_kk eI6 ka0 khm (by decide)) eF4.symm))
      have hv4t : (I37 hm 4).toInt = F4.toInt := congrArg Int32.toInt hv4
      exact r_iret hC hQ hlk hr rfl (by decide) (by decide) dX10_plan_44 ⟨_, _, rfl, rfl, ⟨hs37, hF37, (by first | exact Or.inl ⟨hz, by omega⟩ | exact Or.inr ⟨hm, hbm, Or.inr ⟨by omega, by omega, by omega⟩⟩ | exact Or.inr ⟨hm, hbm, Or.inl ⟨by omega, by have h9 := congrArg Int32.toInt k37_0; omega, by omega⟩⟩), (by first | exact fun z hz9 => by rw [hz] at hz9; cases hz9 | exact fun z hz9 => by rw [hbm] at hz9; cases hz9; first | exact ⟨fun h9 => by exfalso; omega, fun _ => rw37⟩ | exact ⟨fun _ => rw37.frm (by omega), fun h9 => by exfalso; omega⟩), (by omega)⟩⟩
set_option maxHeartbeats 4000000 in
set_option maxRecDepth 100000 in
theorem f_X10_undo (g : GG) (l : Launch) (K len : Nat → Nat) (I : Nat → Nat → Int32) (J : Nat → Nat → Int64) (R : Nat → Nat → Option Nat) (hs : Sf K len I R) (a0 : Nat) (ka0 : K a0 = 11) (D : DD) (hmx : ∀ hm, R a0 3 = some hm → RW (CM hm R) (cntN D) D I ∧ (I hm 4).toInt = D 0 4) : Ct g l yX10_undo cX10_undo 1 (Option.some Jvm.ClassFile.FieldType.boolean) rmX10_undo [.ref a0] (K, len, I, J, R) (pI1 (K, len, I, J, R) (fun r I' => Sf K len I' R ∧ Fr K [(10, 4), (11, 0), (11, 1), (11, 2)] I I' ∧ ((R a0 3 = none ∧ r.toInt = 0) ∨ (∃ hm, R a0 3 = some hm ∧ (((I hm 4).toInt ≠ (I hm 5).toInt ∧ r.toInt = 1 ∧ (I' hm 4).toInt = (I hm 4).toInt - 1) ∨ ((I hm 4).toInt = (I hm 5).toInt ∧ r.toInt = 0 ∧ (I' hm 4).toInt = (I hm 4).toInt)))) ∧ (∀ hm, R a0 3 = some hm → (((I hm 4).toInt ≠ (I hm 5).toInt) → RW (CM hm R) (cntN (upD D 0 4 (D 0 4 - 1))) (upD D 0 4 (D 0 4 - 1)) I') ∧ (¬ ((I hm 4).toInt ≠ (I hm 5).toInt) → RW (CM hm R) (cntN D) D I')) ∧ ((I' a0 2).toInt = -1))) := by
  refine Ct_intro (by decide +kernel) (Nat.le_of_ble_eq_true rfl) (fun X hC hL hKK hNm hr hlk hQ => ?_)
  subst hL
  have hC : Cx g X cX10_undo "HillTapModel" 1 rmX10_undo := hC
  show P g X 1 0 [(0, .ref a0)] [] 0 0 (K, len, I, J, R)
  have hF : Fr K [(10, 4), (11, 0), (11, 1), (11, 2)] I I := Fr.refl
  rcases hs.2.1.2.2.1 a0 ka0 with hz | ⟨hm, hbm, khm⟩
  · refine r_aload_n hC dX10_undo_0 0 rfl ?_
    refine r_iconst hC (v := (0)) dX10_undo_1 (by decide) (by decide) (fun x1_ e1 t1 => ?_)
    refine r_puti hC 0 (ci := 10) rfl u10_in tyX10_ok nmX10 (by decide) mT_4_235 rfl rfl rfl dX10_undo_2 ka0 rfl rfl (fun I2 eI2 => ?_)
    have hs2 := hs.put0 eI2 ka0 rfl rfl rfl (by decide)
    have hF2 := hF.put eI2 ka0 rfl
    refine r_aload_n hC dX10_undo_5 0 rfl ?_
    refine r_getz hC 3 (ci := 10) rfl u10_in (by decide) mT_4_238 dX10_undo_6 ka0 rfl rfl hz ?_
    refine r_ifnullN hC (tgt := 29) dX10_undo_9 (by decide) ?_
    refine r_aload_n hC dX10_undo_29 0 rfl ?_
    refine r_bipush hC (v := (6)) dX10_undo_30 (by decide) (by decide) (fun x3_ e3 t3 => ?_)
    refine r_callV hC (As := [.int x3_]) (rest := []) (ci := 10) (c_X10_refused g (xL X) K len I2 J R hs2 a0 ka0 x3_) mT_5_85 mT_1_10 mT_5_82 mT_5_84 mP_48 okX10_refused ⟨by decide, by decide⟩ rfl (by show kO (K a0) = _; rw [ka0]; rfl) rfl rfl (Nat.le_of_ble_eq_true rfl) ⟨by decide, by decide⟩ dX10_undo_32 (aI1 (F := fun st M => P g X 1 35 [(0, .ref a0)] st _ _ M) (M := (K, len, I2, J, R)) fun x4_ I4 h4 => ?_)
    obtain ⟨hs4, hf4, k4_0, k4_1, k4_2⟩ := h4
    show P g X 1 35 [(0, .ref a0)] [.int x4_] _ _ (K, len, I4, J, R)
    have hF4 : Fr K [(10, 4), (11, 0), (11, 1), (11, 2)] I I4 := hF2.trans hf4 rfl rfl
    refine r_pop hC dX10_undo_35 rfl ?_
    refine r_iconst hC (v := (0)) dX10_undo_36 (by decide) (by decide) (fun x5_ e5 t5 => ?_)
    exact r_iret hC hQ hlk hr (by rw [e5]; rfl) (by decide) (by decide) dX10_undo_37 ⟨_, _, rfl, rfl, ⟨hs4, hF4, (by first | exact Or.inl ⟨hz, by omega⟩ | exact Or.inr ⟨hm, hbm, Or.inr ⟨by omega, by omega, by omega⟩⟩ | exact Or.inr ⟨hm, hbm, Or.inl ⟨by omega, by omega, by omega⟩⟩), (by first | exact fun z hz9 => by rw [hz] at hz9; cases hz9 | exact fun z hz9 => by rw [hbm] at hz9; cases hz9; first | exact ⟨fun h9 => by exfalso; omega, fun _ => NOrwd⟩ | exact ⟨fun _ => NOrwd.und, fun h9 => by exfalso; omega⟩), (by omega)⟩⟩
  · obtain ⟨S0, eS0⟩ : ∃ z : Int32, z = I hm 7 := ⟨_, rfl⟩
    have fS0 : S0.toInt = (I hm 7).toInt := by rw [eS0]
    have rS0 := hs.rng khm rfl eS0
    obtain ⟨F4, eF4⟩ : ∃ z : Int32, z = I hm 4 := ⟨_, rfl⟩
    have fF4 : F4.toInt = (I hm 4).toInt := by rw [eF4]
    have rF4 := hs.rng khm rfl eF4
    obtain ⟨T5, eT5⟩ : ∃ z : Int32, z = I hm 5 := ⟨_, rfl⟩
    have fT5 : T5.toInt = (I hm 5).toInt := by rw [eT5]
    have rT5 := hs.rng khm rfl eT5
    obtain ⟨rwd, hdx⟩ := hmx hm hbm
    have hcx := CM_x hs khm
    refine r_aload_n hC dX10_undo_0 0 rfl ?_
    refine r_iconst hC (v := (0)) dX10_undo_1 (by decide) (by decide) (fun x6_ e6 t6 => ?_)
    refine r_puti hC 0 (ci := 10) rfl u10_in tyX10_ok nmX10 (by decide) mT_4_235 rfl rfl rfl dX10_undo_2 ka0 rfl rfl (fun I7 eI7 => ?_)
    have hs7 := hs.put0 eI7 ka0 rfl rfl rfl (by decide)
    have hF7 := hF.put eI7 ka0 rfl
    have rw7 := rwd.putO hcx eI7 ka0 rfl
    refine r_aload_n hC dX10_undo_5 0 rfl ?_
    refine r_getr hC 3 (ci := 10) rfl u10_in (by decide) mT_4_238 dX10_undo_6 ka0 rfl rfl hbm ?_
    refine r_ifnull hC dX10_undo_9 ?_
    refine r_aload_n hC dX10_undo_12 0 rfl ?_
    refine r_getr hC 3 (ci := 10) rfl u10_in (by decide) mT_4_238 dX10_undo_13 ka0 rfl rfl hbm ?_
    refine r_getiN hC 4 (ci := 9) rfl u9_in (by decide) nF_4 dX10_undo_16 khm rfl rfl (fun x8_ e8 => ?_)
    have r8 := hs7.rng khm rfl e8
    have f8 : x8_.toInt = (I7 hm 4).toInt := by rw [e8]
    have w8 : x8_ = F4 := by rw [e8]; exact (Eq.trans (up2_kk eI7 ka0 khm (by decide)) eF4.symm)
    have wt8 : x8_.toInt = F4.toInt := by rw [w8]
    refine r_aload_n hC dX10_undo_19 0 rfl ?_
    refine r_getr hC 3 (ci := 10) rfl u10_in (by decide) mT_4_238 dX10_undo_20 ka0 rfl rfl hbm ?_
    refine r_getiN hC 5 (ci := 9) rfl u9_in (by decide) nF_5 dX10_undo_23 khm rfl rfl (fun x9_ e9 => ?_)
    have r9 := hs7.rng khm rfl e9
    have f9 : x9_.toInt = (I7 hm 5).toInt := by rw [e9]
    have w9 : x9_ = T5 := by rw [e9]; exact (Eq.trans (up2_kk eI7 ka0 khm (by decide)) eT5.symm)
    have wt9 : x9_.toInt = T5.toInt := by rw [w9]
    refine r_icmp_ne hC (tgt := 38) dX10_undo_26 (by decide) (fun c10 => ?_) (fun c10 => ?_)
    · refine r_aload_n hC dX10_undo_38 0 rfl ?_
      refine r_getr hC 3 (ci := 10) rfl u10_in (by decide) mT_4_238 dX10_undo_39 ka0 rfl rfl hbm ?_
      refine r_dup hC dX10_undo_42 rfl ?_
      refine r_getiN hC 4 (ci := 9) rfl u9_in (by decide) nF_4 dX10_undo_43 khm rfl rfl (fun x11_ e11 => ?_)
      have r11 := hs7.rng khm rfl e11
      have f11 : x11_.toInt = (I7 hm 4).toInt := by rw [e11]
      have w11 : x11_ = x8_ := by rw [e11]; exact e8.symm
      have wt11 : x11_.toInt = x8_.toInt := by rw [w11]
      refine r_iconst hC (v := (1)) dX10_undo_46 (by decide) (by decide) (fun x12_ e12 t12 => ?_)
      refine r_isub hC dX10_undo_47 (fun x13_ e13 => ?_)
      try have t13 : x13_.toInt = x11_.toInt - x12_.toInt := by rw [e13]; exact ti_sub (by omega) (by omega)
      refine r_putiN hC 4 (ci := 9) rfl u9_in tyX9_ok nmX9 (by decide) nF_4 rfl rfl rfl dX10_undo_48 khm rfl rfl (fun I14 eI14 => ?_)
      have hs14 : Sf K len I14 R := hs7.putA4 eI14 khm (by have h9 := hs7.told khm; omega) (by omega) (by have h9 := hs7.told khm; omega)
      have hF14 := hF7.put eI14 khm rfl
      have rw14 := rw7.putO hcx eI14 khm rfl
      refine r_aload_n hC dX10_undo_51 0 rfl ?_
      refine r_iconst hC (v := (0)) dX10_undo_52 (by decide) (by decide) (fun x15_ e15 t15 => ?_)
      refine r_callV hC (As := [.int x15_]) (rest := []) (ci := 10) (c_X10_done g (xL X) K len I14 J R hs14 a0 ka0 x15_) mT_6_79 mT_1_10 mT_6_76 mT_6_78 mP_67 okX10_done ⟨by decide, by decide⟩ rfl (by show kO (K a0) = _; rw [ka0]; rfl) rfl rfl (Nat.le_of_ble_eq_true rfl) ⟨by decide, by decide⟩ dX10_undo_53 (aI1 (F := fun st M => P g X 1 56 [(0, .ref a0)] st _ _ M) (M := (K, len, I14, J, R)) fun x16_ I16 h16 => ?_)
      obtain ⟨hs16, hf16, k16_0, k16_1, k16_2⟩ := h16
      show P g X 1 56 [(0, .ref a0)] [.int x16_] _ _ (K, len, I16, J, R)
      have hF16 : Fr K [(10, 4), (11, 0), (11, 1), (11, 2)] I I16 := hF14.trans hf16 rfl rfl
      have rw16 := rw14.mv hcx qM_big hf16 rfl
      refine r_pop hC dX10_undo_56 rfl ?_
      refine r_iconst hC (v := (1)) dX10_undo_57 (by decide) (by decide) (fun x17_ e17 t17 => ?_)
      have hv4 : I16 hm 4 = x13_ := (Eq.trans (hf16.get khm rfl) (by rw [eI14]; exact up2_self _ _ _ _))
      have hv4t : (I16 hm 4).toInt = x13_.toInt := congrArg Int32.toInt hv4
      exact r_iret hC hQ hlk hr (by rw [e17]; rfl) (by decide) (by decide) dX10_undo_58 ⟨_, _, rfl, rfl, ⟨hs16, hF16, (by first | exact Or.inl ⟨hz, by omega⟩ | exact Or.inr ⟨hm, hbm, Or.inr ⟨by omega, by omega, by omega⟩⟩ | exact Or.inr ⟨hm, hbm, Or.inl ⟨by omega, by omega, by omega⟩⟩), (by first | exact fun z hz9 => by rw [hz] at hz9; cases hz9 | exact fun z hz9 => by rw [hbm] at hz9; cases hz9; first | exact ⟨fun h9 => by exfalso; omega, fun _ => rw16⟩ | exact ⟨fun _ => rw16.und, fun h9 => by exfalso; omega⟩), (by omega)⟩⟩
    · refine r_aload_n hC dX10_undo_29 0 rfl ?_
      refine r_bipush hC (v := (6)) dX10_undo_30 (by decide) (by decide) (fun x18_ e18 t18 => ?_)
      refine r_callV hC (As := [.int x18_]) (rest := []) (ci := 10) (c_X10_refused g (xL X) K len I7 J R hs7 a0 ka0 x18_) mT_5_85 mT_1_10 mT_5_82 mT_5_84 mP_48 okX10_refused ⟨by decide, by decide⟩ rfl (by show kO (K a0) = _; rw [ka0]; rfl) rfl rfl (Nat.le_of_ble_eq_true rfl) ⟨by decide, by decide⟩ dX10_undo_32 (aI1 (F := fun st M => P g X 1 35 [(0, .ref a0)] st _ _ M) (M := (K, len, I7, J, R)) fun x19_ I19 h19 => ?_)
      obtain ⟨hs19, hf19, k19_0, k19_1, k19_2⟩ := h19
      show P g X 1 35 [(0, .ref a0)] [.int x19_] _ _ (K, len, I19, J, R)
      have hF19 : Fr K [(10, 4), (11, 0), (11, 1), (11, 2)] I I19 := hF7.trans hf19 rfl rfl
      have rw19 := rw7.mv hcx qM_big hf19 rfl
      refine r_pop hC dX10_undo_35 rfl ?_
      refine r_iconst hC (v := (0)) dX10_undo_36 (by decide) (by decide) (fun x20_ e20 t20 => ?_)
      have hv4 : I19 hm 4 = x8_ := (Eq.trans (hf19.get khm rfl) e8.symm)
      have hv4t : (I19 hm 4).toInt = x8_.toInt := congrArg Int32.toInt hv4
      exact r_iret hC hQ hlk hr (by rw [e20]; rfl) (by decide) (by decide) dX10_undo_37 ⟨_, _, rfl, rfl, ⟨hs19, hF19, (by first | exact Or.inl ⟨hz, by omega⟩ | exact Or.inr ⟨hm, hbm, Or.inr ⟨by omega, by omega, by omega⟩⟩ | exact Or.inr ⟨hm, hbm, Or.inl ⟨by omega, by omega, by omega⟩⟩), (by first | exact fun z hz9 => by rw [hz] at hz9; cases hz9 | exact fun z hz9 => by rw [hbm] at hz9; cases hz9; first | exact ⟨fun h9 => by exfalso; omega, fun _ => rw19⟩ | exact ⟨fun _ => rw19.und, fun h9 => by exfalso; omega⟩), (by omega)⟩⟩
set_option maxHeartbeats 4000000 in
set_option maxRecDepth 100000 in
theorem f_X10_forget (g : GG) (l : Launch) (K len : Nat → Nat) (I : Nat → Nat → Int32) (J : Nat → Nat → Int64) (R : Nat → Nat → Option Nat) (hs : Sf K len I R) (a0 : Nat) (ka0 : K a0 = 11) : Ct g l yX10_forget cX10_forget 2 (Option.some Jvm.ClassFile.FieldType.int) rmX10_forget [.ref a0] (K, len, I, J, R) (pI1 (K, len, I, J, R) (fun r I' => Sf K len I' R ∧ Fr K [(11, 0), (11, 20)] I I' ∧ (r.toInt = (I a0 20).toInt) ∧ ((I' a0 20).toInt = 0))) := by
  refine Ct_intro (by decide +kernel) (Nat.le_of_ble_eq_true rfl) (fun X hC hL hKK hNm hr hlk hQ => ?_)
  subst hL
  have hC : Cx g X cX10_forget "HillTapModel" 2 rmX10_forget := hC
  show P g X 2 0 [(0, .ref a0)] [] 0 0 (K, len, I, J, R)
  have hF : Fr K [(11, 0), (11, 20)] I I := Fr.refl
  obtain ⟨C0, eC0⟩ : ∃ z : Int32, z = I a0 20 := ⟨_, rfl⟩
  have fC0 : C0.toInt = (I a0 20).toInt := by rw [eC0]
  have rC0 := hs.rng ka0 rfl eC0
  refine r_aload_n hC dX10_forget_0 0 rfl ?_
  refine r_iconst hC (v := (0)) dX10_forget_1 (by decide) (by decide) (fun x1_ e1 t1 => ?_)
  refine r_puti hC 0 (ci := 10) rfl u10_in tyX10_ok nmX10 (by decide) mT_4_235 rfl rfl rfl dX10_forget_2 ka0 rfl rfl (fun I2 eI2 => ?_)
  have hs2 := hs.put0 eI2 ka0 rfl rfl rfl (by decide)
  have hF2 := hF.put eI2 ka0 rfl
  refine r_aload_n hC dX10_forget_5 0 rfl ?_
  refine r_geti hC 20 (ci := 10) rfl u10_in (by decide) mT_5_15 dX10_forget_6 ka0 rfl rfl (fun x3_ e3 => ?_)
  have r3 := hs2.rng ka0 rfl e3
  have f3 : x3_.toInt = (I2 a0 20).toInt := by rw [e3]
  have w3 : x3_ = C0 := by rw [e3]; exact (Eq.trans (up2_at (Or.inr (by decide)) eI2) eC0.symm)
  have wt3 : x3_.toInt = C0.toInt := by rw [w3]
  refine r_istore_n hC (lv' := [(1, .int x3_), (0, .ref a0)]) dX10_forget_9 (by decide) rfl ?_
  refine r_aload_n hC dX10_forget_10 1 rfl ?_
  refine r_iconst hC (v := (0)) dX10_forget_11 (by decide) (by decide) (fun x4_ e4 t4 => ?_)
  refine r_puti hC 20 (ci := 10) rfl u10_in tyX10_ok nmX10 (by decide) mT_5_15 rfl rfl rfl dX10_forget_12 ka0 rfl rfl (fun I5 eI5 => ?_)
  have hs5 := hs2.put1 eI5 ka0 rfl (by omega) (by omega) rfl rfl (by decide)
  have hF5 := hF2.put eI5 ka0 rfl
  refine r_iload_n hC dX10_forget_15 0 rfl ?_
  have hv20 : I5 a0 20 = x4_ := (by rw [eI5]; exact up2_self _ _ _ _)
  have hv20t : (I5 a0 20).toInt = x4_.toInt := congrArg Int32.toInt hv20
  exact r_iret hC hQ hlk hr rfl (by decide) (by decide) dX10_forget_16 ⟨_, _, rfl, rfl, ⟨hs5, hF5, (by omega), (by omega)⟩⟩
set_option maxHeartbeats 4000000 in
set_option maxRecDepth 100000 in
theorem f_X10_size (g : GG) (l : Launch) (K len : Nat → Nat) (I : Nat → Nat → Int32) (J : Nat → Nat → Int64) (R : Nat → Nat → Option Nat) (hs : Sf K len I R) (a0 : Nat) (ka0 : K a0 = 11) (x1 : Int32) : Ct g l yX10_size cX10_size 2 (Option.some Jvm.ClassFile.FieldType.int) rmX10_size [.ref a0, .int x1] (K, len, I, J, R) (pI1 (K, len, I, J, R) (fun r I' => Sf K len I' R ∧ Fr K [(11, 0)] I I' ∧ ((R a0 3 = none ∧ (x1.toInt = 7 → r.toInt = (I a0 6).toInt) ∧ ((x1.toInt < 0 ∨ 9 < x1.toInt) → r.toInt = -1) ∧ (0 ≤ x1.toInt ∧ x1.toInt ≤ 9 ∧ x1.toInt ≠ 7 → r.toInt = 0)) ∨ (∃ hm, R a0 3 = some hm ∧ ((x1.toInt = 0 → r.toInt = (I hm 3).toInt) ∧ (x1.toInt = 1 → r.toInt = (I hm 4).toInt) ∧ (x1.toInt = 2 → r.toInt = (I hm 6).toInt) ∧ (x1.toInt = 3 → r.toInt = (I hm 7).toInt) ∧ (x1.toInt = 4 → r.toInt = (I hm 8).toInt) ∧ (x1.toInt = 5 → r.toInt = (I hm 9).toInt) ∧ (x1.toInt = 6 → r.toInt = (I a0 20).toInt) ∧ (x1.toInt = 7 → r.toInt = (I a0 6).toInt) ∧ (x1.toInt = 8 → r.toInt = (I hm 0).toInt) ∧ (x1.toInt = 9 → r.toInt = (I hm 2).toInt) ∧ ((x1.toInt < 0 ∨ 9 < x1.toInt) → r.toInt = -1)))))) := by
  refine Ct_intro (by decide +kernel) (Nat.le_of_ble_eq_true rfl) (fun X hC hL hKK hNm hr hlk hQ => ?_)
  subst hL
  have hC : Cx g X cX10_size "HillTapModel" 2 rmX10_size := hC
  show P g X 2 0 [(0, .ref a0), (1, .int x1)] [] 0 0 (K, len, I, J, R)
  have hF : Fr K [(11, 0)] I I := Fr.refl
  have b_x1 := ti_rng x1
  obtain ⟨L6, eL6⟩ : ∃ z : Int32, z = I a0 6 := ⟨_, rfl⟩
  have fL6 : L6.toInt = (I a0 6).toInt := by rw [eL6]
  have rL6 := hs.rng ka0 rfl eL6
  obtain ⟨C0, eC0⟩ : ∃ z : Int32, z = I a0 20 := ⟨_, rfl⟩
  have fC0 : C0.toInt = (I a0 20).toInt := by rw [eC0]
  have rC0 := hs.rng ka0 rfl eC0
  rcases hs.2.1.2.2.1 a0 ka0 with hz | ⟨hm, hbm, khm⟩
  · refine r_aload_n hC dX10_size_0 0 rfl ?_
    refine r_iconst hC (v := (0)) dX10_size_1 (by decide) (by decide) (fun x1_ e1 t1 => ?_)
    refine r_puti hC 0 (ci := 10) rfl u10_in tyX10_ok nmX10 (by decide) mT_4_235 rfl rfl rfl dX10_size_2 ka0 rfl rfl (fun I2 eI2 => ?_)
    have hs2 := hs.put0 eI2 ka0 rfl rfl rfl (by decide)
    have hF2 := hF.put eI2 ka0 rfl
    refine r_iload_n hC dX10_size_5 1 rfl ?_
    refine r_bipush hC (v := (7)) dX10_size_6 (by decide) (by decide) (fun x3_ e3 t3 => ?_)
    refine r_icmp_ne hC (tgt := 16) dX10_size_8 (by decide) (fun c4 => ?_) (fun c4 => ?_)
    · refine r_iload_n hC dX10_size_16 1 rfl ?_
      refine r_iconst hC (v := (0)) dX10_size_17 (by decide) (by decide) (fun x5_ e5 t5 => ?_)
      refine r_bipush hC (v := (9)) dX10_size_18 (by decide) (by decide) (fun x6_ e6 t6 => ?_)
      refine r_callS hC (As := [.int x1, .int x5_, .int x6_]) (rest := []) (f_X10_in g (xL X) K len I2 J R hs2 x1 x5_ x6_) mT_6_8 mT_1_10 mT_6_6 mT_6_7 okX10_in ⟨by decide, by decide⟩ rfl rfl (Nat.le_of_ble_eq_true rfl) ⟨by decide, by decide⟩ dX10_size_20 (aI0 (F := fun st M => P g X 2 23 [(0, .ref a0), (1, .int x1)] st _ _ M) (M := (K, len, I2, J, R)) fun x7_ h7 => ?_)
      have k7_0 := h7
      clear h7
      show P g X 2 23 [(0, .ref a0), (1, .int x1)] [.int x7_] _ _ (K, len, I2, J, R)
      rcases k7_0 with ⟨hr7, hw7⟩ | ⟨hr7, hw7⟩
      · refine r_if_ne hC (tgt := 28) dX10_size_23 (by decide) (fun c8 => ?_) (fun c8 => ?_)
        rotate_left
        · exfalso; omega
        refine r_aload_n hC dX10_size_28 0 rfl ?_
        refine r_getz hC 3 (ci := 10) rfl u10_in (by decide) mT_4_238 dX10_size_29 ka0 rfl rfl hz ?_
        refine r_ifnonnullN hC dX10_size_32 ?_
        refine r_iconst hC (v := (0)) dX10_size_35 (by decide) (by decide) (fun x9_ e9 t9 => ?_)
        exact r_iret hC hQ hlk hr rfl (by decide) (by decide) dX10_size_36 ⟨_, _, rfl, rfl, ⟨hs2, hF2, (by first | exact Or.inl ⟨hz, by omega, by omega, by omega⟩ | exact Or.inr ⟨hm, hbm, by omega, by omega, by omega, by omega, by omega, by omega, by omega, by omega, by omega, by omega, by omega⟩)⟩⟩
      · refine r_if_ne hC (tgt := 28) dX10_size_23 (by decide) (fun c10 => ?_) (fun c10 => ?_)
        · exfalso; omega
        refine r_iconst hC (v := (-1)) dX10_size_26 (by decide) (by decide) (fun x11_ e11 t11 => ?_)
        exact r_iret hC hQ hlk hr rfl (by decide) (by decide) dX10_size_27 ⟨_, _, rfl, rfl, ⟨hs2, hF2, (by first | exact Or.inl ⟨hz, by omega, by omega, by omega⟩ | exact Or.inr ⟨hm, hbm, by omega, by omega, by omega, by omega, by omega, by omega, by omega, by omega, by omega, by omega, by omega⟩)⟩⟩
    · refine r_aload_n hC dX10_size_11 0 rfl ?_
      refine r_geti hC 6 (ci := 10) rfl u10_in (by decide) mT_5_1 dX10_size_12 ka0 rfl rfl (fun x12_ e12 => ?_)
      have r12 := hs2.rng ka0 rfl e12
      have f12 : x12_.toInt = (I2 a0 6).toInt := by rw [e12]
      have w12 : x12_ = L6 := by rw [e12]; exact (Eq.trans (up2_at (Or.inr (by decide)) eI2) eL6.symm)
      have wt12 : x12_.toInt = L6.toInt := by rw [w12]
      exact r_iret hC hQ hlk hr rfl (by decide) (by decide) dX10_size_15 ⟨_, _, rfl, rfl, ⟨hs2, hF2, (by first | exact Or.inl ⟨hz, by omega, by omega, by omega⟩ | exact Or.inr ⟨hm, hbm, by omega, by omega, by omega, by omega, by omega, by omega, by omega, by omega, by omega, by omega, by omega⟩)⟩⟩
  · obtain ⟨S0, eS0⟩ : ∃ z : Int32, z = I hm 7 := ⟨_, rfl⟩
    have fS0 : S0.toInt = (I hm 7).toInt := by rw [eS0]
    have rS0 := hs.rng khm rfl eS0
    obtain ⟨Z0, eZ0⟩ : ∃ z : Int32, z = I hm 0 := ⟨_, rfl⟩
    have fZ0 : Z0.toInt = (I hm 0).toInt := by rw [eZ0]
    obtain ⟨Z2, eZ2⟩ : ∃ z : Int32, z = I hm 2 := ⟨_, rfl⟩
    have fZ2 : Z2.toInt = (I hm 2).toInt := by rw [eZ2]
    obtain ⟨Z3, eZ3⟩ : ∃ z : Int32, z = I hm 3 := ⟨_, rfl⟩
    have fZ3 : Z3.toInt = (I hm 3).toInt := by rw [eZ3]
    have rZ3 := hs.rng khm rfl eZ3
    obtain ⟨Z4, eZ4⟩ : ∃ z : Int32, z = I hm 4 := ⟨_, rfl⟩
    have fZ4 : Z4.toInt = (I hm 4).toInt := by rw [eZ4]
    have rZ4 := hs.rng khm rfl eZ4
    obtain ⟨Z6, eZ6⟩ : ∃ z : Int32, z = I hm 6 := ⟨_, rfl⟩
    have fZ6 : Z6.toInt = (I hm 6).toInt := by rw [eZ6]
    have rZ6 := hs.rng khm rfl eZ6
    obtain ⟨Z7, eZ7⟩ : ∃ z : Int32, z = I hm 7 := ⟨_, rfl⟩
    have fZ7 : Z7.toInt = (I hm 7).toInt := by rw [eZ7]
    have rZ7 := hs.rng khm rfl eZ7
    obtain ⟨Z8, eZ8⟩ : ∃ z : Int32, z = I hm 8 := ⟨_, rfl⟩
    have fZ8 : Z8.toInt = (I hm 8).toInt := by rw [eZ8]
    have rZ8 := hs.rng khm rfl eZ8
    obtain ⟨Z9, eZ9⟩ : ∃ z : Int32, z = I hm 9 := ⟨_, rfl⟩
    have fZ9 : Z9.toInt = (I hm 9).toInt := by rw [eZ9]
    have rZ9 := hs.rng khm rfl eZ9
    refine r_aload_n hC dX10_size_0 0 rfl ?_
    refine r_iconst hC (v := (0)) dX10_size_1 (by decide) (by decide) (fun x13_ e13 t13 => ?_)
    refine r_puti hC 0 (ci := 10) rfl u10_in tyX10_ok nmX10 (by decide) mT_4_235 rfl rfl rfl dX10_size_2 ka0 rfl rfl (fun I14 eI14 => ?_)
    have hs14 := hs.put0 eI14 ka0 rfl rfl rfl (by decide)
    have hF14 := hF.put eI14 ka0 rfl
    refine r_iload_n hC dX10_size_5 1 rfl ?_
    refine r_bipush hC (v := (7)) dX10_size_6 (by decide) (by decide) (fun x15_ e15 t15 => ?_)
    refine r_icmp_ne hC (tgt := 16) dX10_size_8 (by decide) (fun c16 => ?_) (fun c16 => ?_)
    · refine r_iload_n hC dX10_size_16 1 rfl ?_
      refine r_iconst hC (v := (0)) dX10_size_17 (by decide) (by decide) (fun x17_ e17 t17 => ?_)
      refine r_bipush hC (v := (9)) dX10_size_18 (by decide) (by decide) (fun x18_ e18 t18 => ?_)
      refine r_callS hC (As := [.int x1, .int x17_, .int x18_]) (rest := []) (f_X10_in g (xL X) K len I14 J R hs14 x1 x17_ x18_) mT_6_8 mT_1_10 mT_6_6 mT_6_7 okX10_in ⟨by decide, by decide⟩ rfl rfl (Nat.le_of_ble_eq_true rfl) ⟨by decide, by decide⟩ dX10_size_20 (aI0 (F := fun st M => P g X 2 23 [(0, .ref a0), (1, .int x1)] st _ _ M) (M := (K, len, I14, J, R)) fun x19_ h19 => ?_)
      have k19_0 := h19
      clear h19
      show P g X 2 23 [(0, .ref a0), (1, .int x1)] [.int x19_] _ _ (K, len, I14, J, R)
      rcases k19_0 with ⟨hr19, hw19⟩ | ⟨hr19, hw19⟩
      · refine r_if_ne hC (tgt := 28) dX10_size_23 (by decide) (fun c20 => ?_) (fun c20 => ?_)
        rotate_left
        · exfalso; omega
        refine r_aload_n hC dX10_size_28 0 rfl ?_
        refine r_getr hC 3 (ci := 10) rfl u10_in (by decide) mT_4_238 dX10_size_29 ka0 rfl rfl hbm ?_
        refine r_ifnonnull hC (tgt := 37) dX10_size_32 (by decide) ?_
        refine r_iload_n hC dX10_size_37 1 rfl ?_
        by_cases o21 : x1.toInt < 0 ∨ 8 < x1.toInt
        · refine r_tabOut hC (tgt := 149) dX10_size_38 o21 (by decide) ?_
          refine r_aload_n hC dX10_size_149 0 rfl ?_
          refine r_getr hC 3 (ci := 10) rfl u10_in (by decide) mT_4_238 dX10_size_150 ka0 rfl rfl hbm ?_
          refine r_getiN hC 2 (ci := 9) rfl u9_in (by decide) nF_2 dX10_size_153 khm rfl rfl (fun x22_ e22 => ?_)
          have f22 : x22_.toInt = (I14 hm 2).toInt := by rw [e22]
          have w22 : x22_ = Z2 := by rw [e22]; exact (Eq.trans (up2_kk eI14 ka0 khm (by decide)) eZ2.symm)
          have wt22 : x22_.toInt = Z2.toInt := by rw [w22]
          exact r_iret hC hQ hlk hr rfl (by decide) (by decide) dX10_size_156 ⟨_, _, rfl, rfl, ⟨hs14, hF14, (by first | exact Or.inl ⟨hz, by omega, by omega, by omega⟩ | exact Or.inr ⟨hm, hbm, by omega, by omega, by omega, by omega, by omega, by omega, by omega, by omega, by omega, by omega, by omega⟩)⟩⟩
        · rcases (show x1.toInt = 0 ∨ x1.toInt = 1 ∨ x1.toInt = 2 ∨ x1.toInt = 3 ∨ x1.toInt = 4 ∨ x1.toInt = 5 ∨ x1.toInt = 6 ∨ x1.toInt = 7 ∨ x1.toInt = 8 by omega) with o21 | o21 | o21 | o21 | o21 | o21 | o21 | o21 | o21
          · refine r_tabIn hC (tgt := 88) (off := 50) dX10_size_38 (by omega) (by omega) (by rw [o21]; decide) (by decide) ?_
            refine r_aload_n hC dX10_size_88 0 rfl ?_
            refine r_getr hC 3 (ci := 10) rfl u10_in (by decide) mT_4_238 dX10_size_89 ka0 rfl rfl hbm ?_
            refine r_getiN hC 3 (ci := 9) rfl u9_in (by decide) nF_3 dX10_size_92 khm rfl rfl (fun x23_ e23 => ?_)
            have r23 := hs14.rng khm rfl e23
            have f23 : x23_.toInt = (I14 hm 3).toInt := by rw [e23]
            have w23 : x23_ = Z3 := by rw [e23]; exact (Eq.trans (up2_kk eI14 ka0 khm (by decide)) eZ3.symm)
            have wt23 : x23_.toInt = Z3.toInt := by rw [w23]
            exact r_iret hC hQ hlk hr rfl (by decide) (by decide) dX10_size_95 ⟨_, _, rfl, rfl, ⟨hs14, hF14, (by first | exact Or.inl ⟨hz, by omega, by omega, by omega⟩ | exact Or.inr ⟨hm, hbm, by omega, by omega, by omega, by omega, by omega, by omega, by omega, by omega, by omega, by omega, by omega⟩)⟩⟩
          · refine r_tabIn hC (tgt := 96) (off := 58) dX10_size_38 (by omega) (by omega) (by rw [o21]; decide) (by decide) ?_
            refine r_aload_n hC dX10_size_96 0 rfl ?_
            refine r_getr hC 3 (ci := 10) rfl u10_in (by decide) mT_4_238 dX10_size_97 ka0 rfl rfl hbm ?_
            refine r_getiN hC 4 (ci := 9) rfl u9_in (by decide) nF_4 dX10_size_100 khm rfl rfl (fun x24_ e24 => ?_)
            have r24 := hs14.rng khm rfl e24
            have f24 : x24_.toInt = (I14 hm 4).toInt := by rw [e24]
            have w24 : x24_ = Z4 := by rw [e24]; exact (Eq.trans (up2_kk eI14 ka0 khm (by decide)) eZ4.symm)
            have wt24 : x24_.toInt = Z4.toInt := by rw [w24]
            exact r_iret hC hQ hlk hr rfl (by decide) (by decide) dX10_size_103 ⟨_, _, rfl, rfl, ⟨hs14, hF14, (by first | exact Or.inl ⟨hz, by omega, by omega, by omega⟩ | exact Or.inr ⟨hm, hbm, by omega, by omega, by omega, by omega, by omega, by omega, by omega, by omega, by omega, by omega, by omega⟩)⟩⟩
          · refine r_tabIn hC (tgt := 104) (off := 66) dX10_size_38 (by omega) (by omega) (by rw [o21]; decide) (by decide) ?_
            refine r_aload_n hC dX10_size_104 0 rfl ?_
            refine r_getr hC 3 (ci := 10) rfl u10_in (by decide) mT_4_238 dX10_size_105 ka0 rfl rfl hbm ?_
            refine r_getiN hC 6 (ci := 9) rfl u9_in (by decide) nF_6 dX10_size_108 khm rfl rfl (fun x25_ e25 => ?_)
            have r25 := hs14.rng khm rfl e25
            have f25 : x25_.toInt = (I14 hm 6).toInt := by rw [e25]
            have w25 : x25_ = Z6 := by rw [e25]; exact (Eq.trans (up2_kk eI14 ka0 khm (by decide)) eZ6.symm)
            have wt25 : x25_.toInt = Z6.toInt := by rw [w25]
            exact r_iret hC hQ hlk hr rfl (by decide) (by decide) dX10_size_111 ⟨_, _, rfl, rfl, ⟨hs14, hF14, (by first | exact Or.inl ⟨hz, by omega, by omega, by omega⟩ | exact Or.inr ⟨hm, hbm, by omega, by omega, by omega, by omega, by omega, by omega, by omega, by omega, by omega, by omega, by omega⟩)⟩⟩
          · refine r_tabIn hC (tgt := 112) (off := 74) dX10_size_38 (by omega) (by omega) (by rw [o21]; decide) (by decide) ?_
            refine r_aload_n hC dX10_size_112 0 rfl ?_
            refine r_getr hC 3 (ci := 10) rfl u10_in (by decide) mT_4_238 dX10_size_113 ka0 rfl rfl hbm ?_
            refine r_getiN hC 7 (ci := 9) rfl u9_in (by decide) nF_7 dX10_size_116 khm rfl rfl (fun x26_ e26 => ?_)
            have r26 := hs14.rng khm rfl e26
            have f26 : x26_.toInt = (I14 hm 7).toInt := by rw [e26]
            have w26 : x26_ = Z7 := by rw [e26]; exact (Eq.trans (up2_kk eI14 ka0 khm (by decide)) eZ7.symm)
            have wt26 : x26_.toInt = Z7.toInt := by rw [w26]
            exact r_iret hC hQ hlk hr rfl (by decide) (by decide) dX10_size_119 ⟨_, _, rfl, rfl, ⟨hs14, hF14, (by first | exact Or.inl ⟨hz, by omega, by omega, by omega⟩ | exact Or.inr ⟨hm, hbm, by omega, by omega, by omega, by omega, by omega, by omega, by omega, by omega, by omega, by omega, by omega⟩)⟩⟩
          · refine r_tabIn hC (tgt := 120) (off := 82) dX10_size_38 (by omega) (by omega) (by rw [o21]; decide) (by decide) ?_
            refine r_aload_n hC dX10_size_120 0 rfl ?_
            refine r_getr hC 3 (ci := 10) rfl u10_in (by decide) mT_4_238 dX10_size_121 ka0 rfl rfl hbm ?_
            refine r_getiN hC 8 (ci := 9) rfl u9_in (by decide) nF_8 dX10_size_124 khm rfl rfl (fun x27_ e27 => ?_)
            have r27 := hs14.rng khm rfl e27
            have f27 : x27_.toInt = (I14 hm 8).toInt := by rw [e27]
            have w27 : x27_ = Z8 := by rw [e27]; exact (Eq.trans (up2_kk eI14 ka0 khm (by decide)) eZ8.symm)
            have wt27 : x27_.toInt = Z8.toInt := by rw [w27]
            exact r_iret hC hQ hlk hr rfl (by decide) (by decide) dX10_size_127 ⟨_, _, rfl, rfl, ⟨hs14, hF14, (by first | exact Or.inl ⟨hz, by omega, by omega, by omega⟩ | exact Or.inr ⟨hm, hbm, by omega, by omega, by omega, by omega, by omega, by omega, by omega, by omega, by omega, by omega, by omega⟩)⟩⟩
          · refine r_tabIn hC (tgt := 128) (off := 90) dX10_size_38 (by omega) (by omega) (by rw [o21]; decide) (by decide) ?_
            refine r_aload_n hC dX10_size_128 0 rfl ?_
            refine r_getr hC 3 (ci := 10) rfl u10_in (by decide) mT_4_238 dX10_size_129 ka0 rfl rfl hbm ?_
            refine r_getiN hC 9 (ci := 9) rfl u9_in (by decide) nF_9 dX10_size_132 khm rfl rfl (fun x28_ e28 => ?_)
            have r28 := hs14.rng khm rfl e28
            have f28 : x28_.toInt = (I14 hm 9).toInt := by rw [e28]
            have w28 : x28_ = Z9 := by rw [e28]; exact (Eq.trans (up2_kk eI14 ka0 khm (by decide)) eZ9.symm)
            have wt28 : x28_.toInt = Z9.toInt := by rw [w28]
            exact r_iret hC hQ hlk hr rfl (by decide) (by decide) dX10_size_135 ⟨_, _, rfl, rfl, ⟨hs14, hF14, (by first | exact Or.inl ⟨hz, by omega, by omega, by omega⟩ | exact Or.inr ⟨hm, hbm, by omega, by omega, by omega, by omega, by omega, by omega, by omega, by omega, by omega, by omega, by omega⟩)⟩⟩
          · refine r_tabIn hC (tgt := 136) (off := 98) dX10_size_38 (by omega) (by omega) (by rw [o21]; decide) (by decide) ?_
            refine r_aload_n hC dX10_size_136 0 rfl ?_
            refine r_geti hC 20 (ci := 10) rfl u10_in (by decide) mT_5_15 dX10_size_137 ka0 rfl rfl (fun x29_ e29 => ?_)
            have r29 := hs14.rng ka0 rfl e29
            have f29 : x29_.toInt = (I14 a0 20).toInt := by rw [e29]
            have w29 : x29_ = C0 := by rw [e29]; exact (Eq.trans (up2_at (Or.inr (by decide)) eI14) eC0.symm)
            have wt29 : x29_.toInt = C0.toInt := by rw [w29]
            exact r_iret hC hQ hlk hr rfl (by decide) (by decide) dX10_size_140 ⟨_, _, rfl, rfl, ⟨hs14, hF14, (by first | exact Or.inl ⟨hz, by omega, by omega, by omega⟩ | exact Or.inr ⟨hm, hbm, by omega, by omega, by omega, by omega, by omega, by omega, by omega, by omega, by omega, by omega, by omega⟩)⟩⟩
          · refine r_tabIn hC (tgt := 149) (off := 111) dX10_size_38 (by omega) (by omega) (by rw [o21]; decide) (by decide) ?_
            refine r_aload_n hC dX10_size_149 0 rfl ?_
            refine r_getr hC 3 (ci := 10) rfl u10_in (by decide) mT_4_238 dX10_size_150 ka0 rfl rfl hbm ?_
            refine r_getiN hC 2 (ci := 9) rfl u9_in (by decide) nF_2 dX10_size_153 khm rfl rfl (fun x30_ e30 => ?_)
            have f30 : x30_.toInt = (I14 hm 2).toInt := by rw [e30]
            have w30 : x30_ = Z2 := by rw [e30]; exact (Eq.trans (up2_kk eI14 ka0 khm (by decide)) eZ2.symm)
            have wt30 : x30_.toInt = Z2.toInt := by rw [w30]
            exact r_iret hC hQ hlk hr rfl (by decide) (by decide) dX10_size_156 ⟨_, _, rfl, rfl, ⟨hs14, hF14, (by first | exact Or.inl ⟨hz, by omega, by omega, by omega⟩ | exact Or.inr ⟨hm, hbm, by omega, by omega, by omega, by omega, by omega, by omega, by omega, by omega, by omega, by omega, by omega⟩)⟩⟩
          · refine r_tabIn hC (tgt := 141) (off := 103) dX10_size_38 (by omega) (by omega) (by rw [o21]; decide) (by decide) ?_
            refine r_aload_n hC dX10_size_141 0 rfl ?_
            refine r_getr hC 3 (ci := 10) rfl u10_in (by decide) mT_4_238 dX10_size_142 ka0 rfl rfl hbm ?_
            refine r_getiN hC 0 (ci := 9) rfl u9_in (by decide) nF_0 dX10_size_145 khm rfl rfl (fun x31_ e31 => ?_)
            have f31 : x31_.toInt = (I14 hm 0).toInt := by rw [e31]
            have w31 : x31_ = Z0 := by rw [e31]; exact (Eq.trans (up2_kk eI14 ka0 khm (by decide)) eZ0.symm)
            have wt31 : x31_.toInt = Z0.toInt := by rw [w31]
            exact r_iret hC hQ hlk hr rfl (by decide) (by decide) dX10_size_148 ⟨_, _, rfl, rfl, ⟨hs14, hF14, (by first | exact Or.inl ⟨hz, by omega, by omega, by omega⟩ | exact Or.inr ⟨hm, hbm, by omega, by omega, by omega, by omega, by omega, by omega, by omega, by omega, by omega, by omega, by omega⟩)⟩⟩
      · refine r_if_ne hC (tgt := 28) dX10_size_23 (by decide) (fun c32 => ?_) (fun c32 => ?_)
        · exfalso; omega
        refine r_iconst hC (v := (-1)) dX10_size_26 (by decide) (by decide) (fun x33_ e33 t33 => ?_)
        exact r_iret hC hQ hlk hr rfl (by decide) (by decide) dX10_size_27 ⟨_, _, rfl, rfl, ⟨hs14, hF14, (by first | exact Or.inl ⟨hz, by omega, by omega, by omega⟩ | exact Or.inr ⟨hm, hbm, by omega, by omega, by omega, by omega, by omega, by omega, by omega, by omega, by omega, by omega, by omega⟩)⟩⟩
    · refine r_aload_n hC dX10_size_11 0 rfl ?_
      refine r_geti hC 6 (ci := 10) rfl u10_in (by decide) mT_5_1 dX10_size_12 ka0 rfl rfl (fun x34_ e34 => ?_)
      have r34 := hs14.rng ka0 rfl e34
      have f34 : x34_.toInt = (I14 a0 6).toInt := by rw [e34]
      have w34 : x34_ = L6 := by rw [e34]; exact (Eq.trans (up2_at (Or.inr (by decide)) eI14) eL6.symm)
      have wt34 : x34_.toInt = L6.toInt := by rw [w34]
      exact r_iret hC hQ hlk hr rfl (by decide) (by decide) dX10_size_15 ⟨_, _, rfl, rfl, ⟨hs14, hF14, (by first | exact Or.inl ⟨hz, by omega, by omega, by omega⟩ | exact Or.inr ⟨hm, hbm, by omega, by omega, by omega, by omega, by omega, by omega, by omega, by omega, by omega, by omega, by omega⟩)⟩⟩

