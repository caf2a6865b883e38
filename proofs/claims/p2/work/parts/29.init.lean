theorem ha_0 (N : Nat) (K len : Nat → Nat) (cA : ClassId) : vp_cell cA (N, arE 0 (K, len, fun _ _ => 0, fun _ _ => 0, fun _ _ => none) 0) = arrV cA N (fun _ => defaultValue .byte) := rfl
theorem ha_1 (N : Nat) (K len : Nat → Nat) (cA : ClassId) : vp_cell cA (N, arE 1 (K, len, fun _ _ => 0, fun _ _ => 0, fun _ _ => none) 0) = arrV cA N (fun _ => defaultValue .int) := rfl
theorem ha_2 (N : Nat) (K len : Nat → Nat) (cA : ClassId) : vp_cell cA (N, arE 2 (K, len, fun _ _ => 0, fun _ _ => 0, fun _ _ => none) 0) = arrV cA N (fun _ => defaultValue .long) := rfl
theorem ha_3 (N : Nat) (K len : Nat → Nat) (cA : ClassId) : vp_cell cA (N, arE 3 (K, len, fun _ _ => 0, fun _ _ => 0, fun _ _ => none) 0) = arrV cA N (fun _ => defaultValue .boolean) := rfl
theorem pk_big {q : Nat} (h : 1000 ≤ q) : pk q = true := by unfold pk; simp only [Bool.or_eq_true, Nat.ble_eq]; exact Or.inr h
theorem kup {K : Nat → Nat} {q kd b x : Nat} (hq : K q = 0) (hb : K b = x) (hx : x ≠ 0) : va_up K q kd b = x := by rw [va_up_ne _ _ (fun z => hx (by rw [← hb, z, hq]))]; exact hb
theorem Con.fresh {K0 len0 : Nat → Nat} {I0 : Nat → Nat → Int32} {R0 : Nat → Nat → Option Nat} {a ci : Nat} {Z : Nat → Int32} {F : List (Nat × Nat × Nat × Nat)} {K len : Nat → Nat} {I : Nat → Nat → Int32} {R : Nat → Nat → Option Nat} {q : Nat} (c : Con K0 len0 I0 R0 a ci Z F K len I R) (hq : K q = 0) : K0 q = 0 := by
  apply Classical.byContradiction
  intro h
  have := (c.2.2.2.2.2 q h (fun z => c.ne0 (by rw [← z]; exact hq))).1
  rw [hq] at this; exact h this.symm
theorem Con.perm {K0 len0 : Nat → Nat} {I0 : Nat → Nat → Int32} {R0 : Nat → Nat → Option Nat} {a ci : Nat} {Z : Nat → Int32} {F F' : List (Nat × Nat × Nat × Nat)} {K len : Nat → Nat} {I : Nat → Nat → Int32} {R : Nat → Nat → Option Nat} (c : Con K0 len0 I0 R0 a ci Z F K len I R) (h1 : ∀ e ∈ F', e ∈ F) (h2 : ∀ e ∈ F, e ∈ F') : Con K0 len0 I0 R0 a ci Z F' K len I R := ⟨c.1, c.2.1, c.2.2.1, fun e he => c.2.2.2.1 e (h1 e he), fun k hk => c.2.2.2.2.1 k (fun e he => hk e (h2 e he)), c.2.2.2.2.2⟩
theorem rz_all (q : Nat) : ∀ k lo hi, rngI q k = some (lo, hi) → lo ≤ (0 : Int) ∧ (0 : Int) ≤ hi := by
  intro k lo hi; unfold rngI; split <;> intro h <;> first | (cases h; exact ⟨by decide, by decide⟩) | cases h
theorem df0 : ∀ j, j < 7 → defaultValue (tyX0 j) = dfl 0 j := by decide +kernel
theorem rz0 : ∀ k lo hi, rngI (1 + 0) k = some (lo, hi) → lo ≤ ((fun _ => 0 : Nat → Int32) k).toInt ∧ ((fun _ => 0 : Nat → Int32) k).toInt ≤ hi := rz_all _
theorem df1 : ∀ j, j < 15 → defaultValue (tyX1 j) = dfl 1 j := by decide +kernel
theorem rz1 : ∀ k lo hi, rngI (1 + 1) k = some (lo, hi) → lo ≤ ((fun _ => 0 : Nat → Int32) k).toInt ∧ ((fun _ => 0 : Nat → Int32) k).toInt ≤ hi := rz_all _
theorem df2 : ∀ j, j < 8 → defaultValue (tyX2 j) = dfl 2 j := by decide +kernel
theorem rz2 : ∀ k lo hi, rngI (1 + 2) k = some (lo, hi) → lo ≤ ((fun _ => 0 : Nat → Int32) k).toInt ∧ ((fun _ => 0 : Nat → Int32) k).toInt ≤ hi := rz_all _
theorem df3 : ∀ j, j < 5 → defaultValue (tyX3 j) = dfl 3 j := by decide +kernel
theorem rz3 : ∀ k lo hi, rngI (1 + 3) k = some (lo, hi) → lo ≤ ((fun _ => 0 : Nat → Int32) k).toInt ∧ ((fun _ => 0 : Nat → Int32) k).toInt ≤ hi := rz_all _
theorem df4 : ∀ j, j < 4 → defaultValue (tyX4 j) = dfl 4 j := by decide +kernel
theorem rz4 : ∀ k lo hi, rngI (1 + 4) k = some (lo, hi) → lo ≤ ((fun _ => 0 : Nat → Int32) k).toInt ∧ ((fun _ => 0 : Nat → Int32) k).toInt ≤ hi := rz_all _
theorem df5 : ∀ j, j < 2 → defaultValue (tyX5 j) = dfl 5 j := by decide +kernel
theorem rz5 : ∀ k lo hi, rngI (1 + 5) k = some (lo, hi) → lo ≤ ((fun _ => 0 : Nat → Int32) k).toInt ∧ ((fun _ => 0 : Nat → Int32) k).toInt ≤ hi := rz_all _
theorem df6 : ∀ j, j < 7 → defaultValue (tyX6 j) = dfl 6 j := by decide +kernel
theorem rz6 : ∀ k lo hi, rngI (1 + 6) k = some (lo, hi) → lo ≤ ((fun _ => 0 : Nat → Int32) k).toInt ∧ ((fun _ => 0 : Nat → Int32) k).toInt ≤ hi := rz_all _
theorem df7 : ∀ j, j < 6 → defaultValue (tyX7 j) = dfl 7 j := by decide +kernel
theorem rz7 : ∀ k lo hi, rngI (1 + 7) k = some (lo, hi) → lo ≤ ((fun _ => 0 : Nat → Int32) k).toInt ∧ ((fun _ => 0 : Nat → Int32) k).toInt ≤ hi := rz_all _
theorem df8 : ∀ j, j < 13 → defaultValue (tyX8 j) = dfl 8 j := by decide +kernel
theorem rz8 : ∀ k lo hi, rngI (1 + 8) k = some (lo, hi) → lo ≤ ((va_up (fun _ => 0) 12 0) k : Int32).toInt ∧ ((va_up (fun _ => 0) 12 0) k : Int32).toInt ≤ hi := by
  intro k lo hi h
  by_cases hk : k = 12
  · subst hk; cases h
  · rw [va_up_ne _ _ hk]; exact rz_all _ k lo hi h
theorem df9 : ∀ j, j < 28 → defaultValue (tyX9 j) = dfl 9 j := by decide +kernel
theorem rz9 : ∀ k lo hi, rngI (1 + 9) k = some (lo, hi) → lo ≤ ((va_up (fun _ => 0) 0 (-1)) k : Int32).toInt ∧ ((va_up (fun _ => 0) 0 (-1)) k : Int32).toInt ≤ hi := by
  intro k lo hi h
  by_cases hk : k = 0
  · subst hk; cases h
  · rw [va_up_ne _ _ hk]; exact rz_all _ k lo hi h
theorem df10 : ∀ j, j < 26 → defaultValue (tyX10 j) = dfl 10 j := by decide +kernel
theorem rz10 : ∀ k lo hi, rngI (1 + 10) k = some (lo, hi) → lo ≤ ((va_up (fun _ => 0) 2 (-1)) k : Int32).toInt ∧ ((va_up (fun _ => 0) 2 (-1)) k : Int32).toInt ≤ hi := by
  intro k lo hi h
  by_cases hk : k = 2
  · subst hk; cases h
  · rw [va_up_ne _ _ hk]; exact rz_all _ k lo hi h
abbrev rmX4_init : Room := { frames := 1, cells := 0, slots := 0, locals := 20 }
set_option maxHeartbeats 4000000 in
set_option maxRecDepth 100000 in
theorem c_X4_init (g : GG) (l : Launch) (K len : Nat → Nat) (I : Nat → Nat → Int32) (J : Nat → Nat → Int64) (R : Nat → Nat → Option Nat) (hs : Sf K len I R) (a0 : Nat) (ka0 : K a0 = 21 + 4) (hz : I a0 = fun _ => 0) (hn : ∀ k, R a0 k = none) : Ct g l yX4_init cX4_init 1 none rmX4_init [.ref a0] (K, len, I, J, R) (pV5 (Made K len I R a0 4 (fun _ => 0))) := by
  refine Ct_intro (by decide +kernel) (Nat.le_of_ble_eq_true rfl) (fun X hC hL hKK hNm hr hlk hQ => ?_)
  subst hL
  have hC : Cx g X cX4_init "HillTap$Story" 1 rmX4_init := hC
  show P g X 1 0 [(0, .ref a0)] [] 0 0 (K, len, I, J, R)
  have c0 : Con K len I R a0 4 (fun _ => 0) [] K len I R := Con.start hs ka0 hz hn
  refine r_aload_n hC dX4_init_0 0 rfl ?_
  refine r_objInit hC mT_1_159 mT_1_28 mT_1_29 dX4_init_1 (by decide) (by decide) ?_
  refine r_seal (q := a0) (ci := 4) c0.2.1 rfl rfl ?_
  have md1 := c0.made (J := J) (by decide) (by simp [refT]) (rz4) (fun z => absurd z (by decide)) (fun z => absurd z (by decide)) (fun z => absurd z (by decide))
  exact r_vret hC hQ hlk hr (by decide) (by decide) dX4_init_4 ⟨rfl, md1⟩
abbrev rmX5_init : Room := { frames := 1, cells := 1, slots := 900, locals := 20 }
set_option maxHeartbeats 4000000 in
set_option maxRecDepth 100000 in
theorem c_X5_init (g : GG) (l : Launch) (K len : Nat → Nat) (I : Nat → Nat → Int32) (J : Nat → Nat → Int64) (R : Nat → Nat → Option Nat) (hs : Sf K len I R) (a0 : Nat) (ka0 : K a0 = 21 + 5) (hz : I a0 = fun _ => 0) (hn : ∀ k, R a0 k = none) : Ct g l yX5_init cX5_init 1 none rmX5_init [.ref a0] (K, len, I, J, R) (pV5 (Made K len I R a0 5 (fun _ => 0))) := by
  refine Ct_intro (by decide +kernel) (Nat.le_of_ble_eq_true rfl) (fun X hC hL hKK hNm hr hlk hQ => ?_)
  subst hL
  have hC : Cx g X cX5_init "HillTap$Tape" 1 rmX5_init := hC
  show P g X 1 0 [(0, .ref a0)] [] 0 0 (K, len, I, J, R)
  have c0 : Con K len I R a0 5 (fun _ => 0) [] K len I R := Con.start hs ka0 hz hn
  refine r_aload_n hC dX5_init_0 0 rfl ?_
  refine r_objInit hC mT_1_35 mT_1_28 mT_1_29 dX5_init_1 (by decide) (by decide) ?_
  refine r_aload_n hC dX5_init_4 0 rfl ?_
  refine r_sipush hC (v := (900)) dX5_init_5 (by decide) (by decide) (fun z1 ez1 tz1 => ?_)
  refine r_newarray hC (atype := .byte) (ty := .byte) (kd := 40) (t := 0) (N := 900) rfl mT_1_46 rfl rfl rfl (by decide) (fun _ h => h) (900, arE 0 (K, len, fun _ _ => 0, fun _ _ => 0, fun _ _ => none) 0) rfl (ha_0 900 _ _) (nlt_0 (by omega)) (cl_of (by omega)) (by decide) (by decide) (by decide) dX5_init_8 (fun q2 hq2 => ?_)
  refine r_putrF hC 0 (ci := 5) hNm rfl u5_in tyX5_ok nmX5 (by decide) mT_1_36 rfl rfl rfl rfl dX5_init_10 (c0.kq hq2) rfl rfl (fun R2 eR2 => ?_)
  have c2 := c0.row (n := 900) (kd := 40) (k := 0) (by decide) hq2 rfl (by simp) eR2
  generalize va_up K q2 (40) = K2 at c2 ⊢
  generalize va_up len q2 900 = len2 at c2 ⊢
  generalize z2 I q2 0 = I2 at c2 ⊢
  generalize z2 J q2 0 = J2
  refine r_seal (q := a0) (ci := 5) c2.2.1 rfl rfl ?_
  have md3 := c2.made (J := J2) (by decide) (by simp [refT]) (rz5) (fun z => absurd z (by decide)) (fun z => absurd z (by decide)) (fun z => absurd z (by decide))
  exact r_vret hC hQ hlk hr (by decide) (by decide) dX5_init_13 ⟨rfl, md3⟩
abbrev rmX2_init : Room := { frames := 1, cells := 2, slots := 32, locals := 20 }
set_option maxHeartbeats 4000000 in
set_option maxRecDepth 100000 in
theorem c_X2_init (g : GG) (l : Launch) (K len : Nat → Nat) (I : Nat → Nat → Int32) (J : Nat → Nat → Int64) (R : Nat → Nat → Option Nat) (hs : Sf K len I R) (a0 : Nat) (ka0 : K a0 = 21 + 2) (hz : I a0 = fun _ => 0) (hn : ∀ k, R a0 k = none) : Ct g l yX2_init cX2_init 1 none rmX2_init [.ref a0] (K, len, I, J, R) (pV5 (Made K len I R a0 2 (fun _ => 0))) := by
  refine Ct_intro (by decide +kernel) (Nat.le_of_ble_eq_true rfl) (fun X hC hL hKK hNm hr hlk hQ => ?_)
  subst hL
  have hC : Cx g X cX2_init "HillTap$Lake" 1 rmX2_init := hC
  show P g X 1 0 [(0, .ref a0)] [] 0 0 (K, len, I, J, R)
  have c0 : Con K len I R a0 2 (fun _ => 0) [] K len I R := Con.start hs ka0 hz hn
  refine r_aload_n hC dX2_init_0 0 rfl ?_
  refine r_objInit hC mT_1_116 mT_1_28 mT_1_29 dX2_init_1 (by decide) (by decide) ?_
  refine r_aload_n hC dX2_init_4 0 rfl ?_
  refine r_bipush hC (v := (16)) dX2_init_5 (by decide) (by decide) (fun z1 ez1 tz1 => ?_)
  refine r_newarray hC (atype := .int) (ty := .int) (kd := 41) (t := 1) (N := 16) rfl mT_1_152 rfl rfl rfl (by decide) (fun _ h => h) (16, arE 1 (K, len, fun _ _ => 0, fun _ _ => 0, fun _ _ => none) 0) rfl (ha_1 16 _ _) (nlt_0 (by omega)) (cl_of (by omega)) (by decide) (by decide) (by decide) dX2_init_7 (fun q2 hq2 => ?_)
  refine r_putrF hC 6 (ci := 2) hNm rfl u2_in tyX2_ok nmX2 (by decide) mT_1_133 rfl rfl rfl rfl dX2_init_9 (c0.kq hq2) rfl rfl (fun R2 eR2 => ?_)
  have c2 := c0.row (n := 16) (kd := 41) (k := 6) (by decide) hq2 rfl (by simp) eR2
  generalize va_up K q2 (41) = K2 at c2 ⊢
  generalize va_up len q2 16 = len2 at c2 ⊢
  generalize z2 I q2 0 = I2 at c2 ⊢
  generalize z2 J q2 0 = J2
  refine r_aload_n hC dX2_init_12 0 rfl ?_
  refine r_bipush hC (v := (16)) dX2_init_13 (by decide) (by decide) (fun z3 ez3 tz3 => ?_)
  refine r_newarray hC (atype := .int) (ty := .int) (kd := 41) (t := 1) (N := 16) rfl mT_1_152 rfl rfl rfl (by decide) (fun _ h => h) (16, arE 1 (K2, len2, fun _ _ => 0, fun _ _ => 0, fun _ _ => none) 0) rfl (ha_1 16 _ _) (nlt_0 (by omega)) (cl_of (by omega)) (by decide) (by decide) (by decide) dX2_init_15 (fun q4 hq4 => ?_)
  refine r_putrF hC 7 (ci := 2) hNm rfl u2_in tyX2_ok nmX2 (by decide) mT_1_134 rfl rfl rfl rfl dX2_init_17 (c2.kq hq4) rfl rfl (fun R4 eR4 => ?_)
  have c4 := c2.row (n := 16) (kd := 41) (k := 7) (by decide) hq4 rfl (by simp) eR4
  generalize va_up K2 q4 (41) = K4 at c4 ⊢
  generalize va_up len2 q4 16 = len4 at c4 ⊢
  generalize z2 I2 q4 0 = I4 at c4 ⊢
  generalize z2 J2 q4 0 = J4
  refine r_seal (q := a0) (ci := 2) c4.2.1 rfl rfl ?_
  have md5 := c4.made (J := J4) (by decide) (by simp [refT]) (rz2) (fun _ => by decide) (fun z => absurd z (by decide)) (fun z => absurd z (by decide))
  exact r_vret hC hQ hlk hr (by decide) (by decide) dX2_init_20 ⟨rfl, md5⟩
abbrev rmX9_init : Room := { frames := 1, cells := 17, slots := 203, locals := 20 }
set_option maxHeartbeats 4000000 in
set_option maxRecDepth 100000 in
theorem c_X9_init (g : GG) (l : Launch) (K len : Nat → Nat) (I : Nat → Nat → Int32) (J : Nat → Nat → Int64) (R : Nat → Nat → Option Nat) (hs : Sf K len I R) (a0 : Nat) (ka0 : K a0 = 21 + 9) (hz : I a0 = fun _ => 0) (hn : ∀ k, R a0 k = none) : Ct g l yX9_init cX9_init 1 none rmX9_init [.ref a0] (K, len, I, J, R) (pV5 (Made K len I R a0 9 (va_up (fun _ => 0) 0 (-1)))) := by
  refine Ct_intro (by decide +kernel) (Nat.le_of_ble_eq_true rfl) (fun X hC hL hKK hNm hr hlk hQ => ?_)
  subst hL
  have hC : Cx g X cX9_init "HillTapModel$Hill" 1 rmX9_init := hC
  show P g X 1 0 [(0, .ref a0)] [] 0 0 (K, len, I, J, R)
  have c0 : Con K len I R a0 9 (fun _ => 0) [] K len I R := Con.start hs ka0 hz hn
  refine r_aload_n hC dX9_init_0 0 rfl ?_
  refine r_objInit hC mT_5_91 mT_1_28 mT_1_29 dX9_init_1 (by decide) (by decide) ?_
  refine r_aload_n hC dX9_init_4 0 rfl ?_
  refine r_iconst hC (v := (-1)) dX9_init_5 (by decide) (by decide) (fun z1 ez1 tz1 => ?_)
  refine r_puti hC 0 (ci := 9) rfl u9_in tyX9_ok nmX9 (by decide) mT_5_92 rfl rfl rfl dX9_init_6 c0.2.1 rfl rfl (fun I2 eI2 => ?_)
  rw [ez1] at eI2
  have c2 := c0.num (by decide) eI2
  refine r_aload_n hC dX9_init_9 0 rfl ?_
  refine r_iconst hC (v := (5)) dX9_init_10 (by decide) (by decide) (fun z3 ez3 tz3 => ?_)
  refine r_newarray hC (atype := .int) (ty := .int) (kd := 41) (t := 1) (N := 5) rfl mT_1_152 rfl rfl rfl (by decide) (fun _ h => h) (5, arE 1 (K, len, fun _ _ => 0, fun _ _ => 0, fun _ _ => none) 0) rfl (ha_1 5 _ _) (nlt_0 (by omega)) (cl_of (by omega)) (by decide) (by decide) (by decide) dX9_init_11 (fun q4 hq4 => ?_)
  refine r_putrF hC 11 (ci := 9) hNm rfl u9_in tyX9_ok nmX9 (by decide) mT_5_105 rfl rfl rfl rfl dX9_init_13 (c2.kq hq4) rfl rfl (fun R4 eR4 => ?_)
  have c4 := c2.row (n := 5) (kd := 41) (k := 11) (by decide) hq4 rfl (by simp) eR4
  generalize va_up K q4 (41) = K4 at c4 ⊢
  generalize va_up len q4 5 = len4 at c4 ⊢
  generalize z2 I2 q4 0 = I4 at c4 ⊢
  generalize z2 J q4 0 = J4
  refine r_aload_n hC dX9_init_16 0 rfl ?_
  refine r_iconst hC (v := (5)) dX9_init_17 (by decide) (by decide) (fun z5 ez5 tz5 => ?_)
  refine r_newarray hC (atype := .int) (ty := .int) (kd := 41) (t := 1) (N := 5) rfl mT_1_152 rfl rfl rfl (by decide) (fun _ h => h) (5, arE 1 (K4, len4, fun _ _ => 0, fun _ _ => 0, fun _ _ => none) 0) rfl (ha_1 5 _ _) (nlt_0 (by omega)) (cl_of (by omega)) (by decide) (by decide) (by decide) dX9_init_18 (fun q6 hq6 => ?_)
  refine r_putrF hC 12 (ci := 9) hNm rfl u9_in tyX9_ok nmX9 (by decide) mT_5_107 rfl rfl rfl rfl dX9_init_20 (c4.kq hq6) rfl rfl (fun R6 eR6 => ?_)
  have c6 := c4.row (n := 5) (kd := 41) (k := 12) (by decide) hq6 rfl (by simp) eR6
  generalize va_up K4 q6 (41) = K6 at c6 ⊢
  generalize va_up len4 q6 5 = len6 at c6 ⊢
  generalize z2 I4 q6 0 = I6 at c6 ⊢
  generalize z2 J4 q6 0 = J6
  refine r_aload_n hC dX9_init_23 0 rfl ?_
  refine r_bipush hC (v := (16)) dX9_init_24 (by decide) (by decide) (fun z7 ez7 tz7 => ?_)
  refine r_newarray hC (atype := .int) (ty := .int) (kd := 41) (t := 1) (N := 16) rfl mT_1_152 rfl rfl rfl (by decide) (fun _ h => h) (16, arE 1 (K6, len6, fun _ _ => 0, fun _ _ => 0, fun _ _ => none) 0) rfl (ha_1 16 _ _) (nlt_0 (by omega)) (cl_of (by omega)) (by decide) (by decide) (by decide) dX9_init_26 (fun q8 hq8 => ?_)
  refine r_putrF hC 13 (ci := 9) hNm rfl u9_in tyX9_ok nmX9 (by decide) mT_5_109 rfl rfl rfl rfl dX9_init_28 (c6.kq hq8) rfl rfl (fun R8 eR8 => ?_)
  have c8 := c6.row (n := 16) (kd := 41) (k := 13) (by decide) hq8 rfl (by simp) eR8
  generalize va_up K6 q8 (41) = K8 at c8 ⊢
  generalize va_up len6 q8 16 = len8 at c8 ⊢
  generalize z2 I6 q8 0 = I8 at c8 ⊢
  generalize z2 J6 q8 0 = J8
  refine r_aload_n hC dX9_init_31 0 rfl ?_
  refine r_bipush hC (v := (16)) dX9_init_32 (by decide) (by decide) (fun z9 ez9 tz9 => ?_)
  refine r_newarray hC (atype := .int) (ty := .int) (kd := 41) (t := 1) (N := 16) rfl mT_1_152 rfl rfl rfl (by decide) (fun _ h => h) (16, arE 1 (K8, len8, fun _ _ => 0, fun _ _ => 0, fun _ _ => none) 0) rfl (ha_1 16 _ _) (nlt_0 (by omega)) (cl_of (by omega)) (by decide) (by decide) (by decide) dX9_init_34 (fun q10 hq10 => ?_)
  refine r_putrF hC 14 (ci := 9) hNm rfl u9_in tyX9_ok nmX9 (by decide) mT_5_111 rfl rfl rfl rfl dX9_init_36 (c8.kq hq10) rfl rfl (fun R10 eR10 => ?_)
  have c10 := c8.row (n := 16) (kd := 41) (k := 14) (by decide) hq10 rfl (by simp) eR10
  generalize va_up K8 q10 (41) = K10 at c10 ⊢
  generalize va_up len8 q10 16 = len10 at c10 ⊢
  generalize z2 I8 q10 0 = I10 at c10 ⊢
  generalize z2 J8 q10 0 = J10
  refine r_aload_n hC dX9_init_39 0 rfl ?_
  refine r_bipush hC (v := (60)) dX9_init_40 (by decide) (by decide) (fun z11 ez11 tz11 => ?_)
  refine r_newarray hC (atype := .int) (ty := .int) (kd := 41) (t := 1) (N := 60) rfl mT_1_152 rfl rfl rfl (by decide) (fun _ h => h) (60, arE 1 (K10, len10, fun _ _ => 0, fun _ _ => 0, fun _ _ => none) 0) rfl (ha_1 60 _ _) (nlt_0 (by omega)) (cl_of (by omega)) (by decide) (by decide) (by decide) dX9_init_42 (fun q12 hq12 => ?_)
  refine r_putrF hC 15 (ci := 9) hNm rfl u9_in tyX9_ok nmX9 (by decide) mT_5_113 rfl rfl rfl rfl dX9_init_44 (c10.kq hq12) rfl rfl (fun R12 eR12 => ?_)
  have c12 := c10.row (n := 60) (kd := 41) (k := 15) (by decide) hq12 rfl (by simp) eR12
  generalize va_up K10 q12 (41) = K12 at c12 ⊢
  generalize va_up len10 q12 60 = len12 at c12 ⊢
  generalize z2 I10 q12 0 = I12 at c12 ⊢
  generalize z2 J10 q12 0 = J12
  refine r_aload_n hC dX9_init_47 0 rfl ?_
  refine r_bipush hC (v := (6)) dX9_init_48 (by decide) (by decide) (fun z13 ez13 tz13 => ?_)
  refine r_newarray hC (atype := .int) (ty := .int) (kd := 41) (t := 1) (N := 6) rfl mT_1_152 rfl rfl rfl (by decide) (fun _ h => h) (6, arE 1 (K12, len12, fun _ _ => 0, fun _ _ => 0, fun _ _ => none) 0) rfl (ha_1 6 _ _) (nlt_0 (by omega)) (cl_of (by omega)) (by decide) (by decide) (by decide) dX9_init_50 (fun q14 hq14 => ?_)
  refine r_putrF hC 16 (ci := 9) hNm rfl u9_in tyX9_ok nmX9 (by decide) mT_5_115 rfl rfl rfl rfl dX9_init_52 (c12.kq hq14) rfl rfl (fun R14 eR14 => ?_)
  have c14 := c12.row (n := 6) (kd := 41) (k := 16) (by decide) hq14 rfl (by simp) eR14
  generalize va_up K12 q14 (41) = K14 at c14 ⊢
  generalize va_up len12 q14 6 = len14 at c14 ⊢
  generalize z2 I12 q14 0 = I14 at c14 ⊢
  generalize z2 J12 q14 0 = J14
  refine r_aload_n hC dX9_init_55 0 rfl ?_
  refine r_bipush hC (v := (6)) dX9_init_56 (by decide) (by decide) (fun z15 ez15 tz15 => ?_)
  refine r_newarray hC (atype := .int) (ty := .int) (kd := 1000 + 2 * a0) (t := 1) (N := 6) rfl mT_1_152 rfl (kOb (by omega)) (kAb (by omega)) (by omega) (fun _ h => h) (6, arE 1 (K14, len14, fun _ _ => 0, fun _ _ => 0, fun _ _ => none) 0) rfl (ha_1 6 _ _) (nlt_0 (by omega)) (cl_of (by omega)) (by decide) (by decide) (by decide) dX9_init_58 (fun q16 hq16 => ?_)
  refine r_putrF hC 17 (ci := 9) hNm rfl u9_in tyX9_ok nmX9 (by decide) mT_5_117 rfl rfl rfl rfl dX9_init_60 (c14.kq hq16) rfl rfl (fun R16 eR16 => ?_)
  have c16 := c14.row (n := 6) (kd := 1000 + 2 * a0) (k := 17) (by decide) hq16 (pk_big (by omega)) (by simp) eR16
  generalize va_up K14 q16 (1000 + 2 * a0) = K16 at c16 ⊢
  generalize va_up len14 q16 6 = len16 at c16 ⊢
  generalize z2 I14 q16 0 = I16 at c16 ⊢
  generalize z2 J14 q16 0 = J16
  refine r_aload_n hC dX9_init_63 0 rfl ?_
  refine r_bipush hC (v := (6)) dX9_init_64 (by decide) (by decide) (fun z17 ez17 tz17 => ?_)
  refine r_newarray hC (atype := .int) (ty := .int) (kd := 41) (t := 1) (N := 6) rfl mT_1_152 rfl rfl rfl (by decide) (fun _ h => h) (6, arE 1 (K16, len16, fun _ _ => 0, fun _ _ => 0, fun _ _ => none) 0) rfl (ha_1 6 _ _) (nlt_0 (by omega)) (cl_of (by omega)) (by decide) (by decide) (by decide) dX9_init_66 (fun q18 hq18 => ?_)
  refine r_putrF hC 18 (ci := 9) hNm rfl u9_in tyX9_ok nmX9 (by decide) mT_5_119 rfl rfl rfl rfl dX9_init_68 (c16.kq hq18) rfl rfl (fun R18 eR18 => ?_)
  have c18 := c16.row (n := 6) (kd := 41) (k := 18) (by decide) hq18 rfl (by simp) eR18
  generalize va_up K16 q18 (41) = K18 at c18 ⊢
  generalize va_up len16 q18 6 = len18 at c18 ⊢
  generalize z2 I16 q18 0 = I18 at c18 ⊢
  generalize z2 J16 q18 0 = J18
  refine r_aload_n hC dX9_init_71 0 rfl ?_
  refine r_bipush hC (v := (6)) dX9_init_72 (by decide) (by decide) (fun z19 ez19 tz19 => ?_)
  refine r_newarray hC (atype := .int) (ty := .int) (kd := 1001 + 2 * a0) (t := 1) (N := 6) rfl mT_1_152 rfl (kOb (by omega)) (kAb (by omega)) (by omega) (fun _ h => h) (6, arE 1 (K18, len18, fun _ _ => 0, fun _ _ => 0, fun _ _ => none) 0) rfl (ha_1 6 _ _) (nlt_0 (by omega)) (cl_of (by omega)) (by decide) (by decide) (by decide) dX9_init_74 (fun q20 hq20 => ?_)
  refine r_putrF hC 19 (ci := 9) hNm rfl u9_in tyX9_ok nmX9 (by decide) mT_5_121 rfl rfl rfl rfl dX9_init_76 (c18.kq hq20) rfl rfl (fun R20 eR20 => ?_)
  have c20 := c18.row (n := 6) (kd := 1001 + 2 * a0) (k := 19) (by decide) hq20 (pk_big (by omega)) (by simp) eR20
  generalize va_up K18 q20 (1001 + 2 * a0) = K20 at c20 ⊢
  generalize va_up len18 q20 6 = len20 at c20 ⊢
  generalize z2 I18 q20 0 = I20 at c20 ⊢
  generalize z2 J18 q20 0 = J20
  refine r_aload_n hC dX9_init_79 0 rfl ?_
  refine r_iconst hC (v := (4)) dX9_init_80 (by decide) (by decide) (fun z21 ez21 tz21 => ?_)
  refine r_newarray hC (atype := .int) (ty := .int) (kd := 41) (t := 1) (N := 4) rfl mT_1_152 rfl rfl rfl (by decide) (fun _ h => h) (4, arE 1 (K20, len20, fun _ _ => 0, fun _ _ => 0, fun _ _ => none) 0) rfl (ha_1 4 _ _) (nlt_0 (by omega)) (cl_of (by omega)) (by decide) (by decide) (by decide) dX9_init_81 (fun q22 hq22 => ?_)
  refine r_putrF hC 20 (ci := 9) hNm rfl u9_in tyX9_ok nmX9 (by decide) mT_5_123 rfl rfl rfl rfl dX9_init_83 (c20.kq hq22) rfl rfl (fun R22 eR22 => ?_)
  have c22 := c20.row (n := 4) (kd := 41) (k := 20) (by decide) hq22 rfl (by simp) eR22
  generalize va_up K20 q22 (41) = K22 at c22 ⊢
  generalize va_up len20 q22 4 = len22 at c22 ⊢
  generalize z2 I20 q22 0 = I22 at c22 ⊢
  generalize z2 J20 q22 0 = J22
  refine r_aload_n hC dX9_init_86 0 rfl ?_
  refine r_iconst hC (v := (4)) dX9_init_87 (by decide) (by decide) (fun z23 ez23 tz23 => ?_)
  refine r_newarray hC (atype := .int) (ty := .int) (kd := 41) (t := 1) (N := 4) rfl mT_1_152 rfl rfl rfl (by decide) (fun _ h => h) (4, arE 1 (K22, len22, fun _ _ => 0, fun _ _ => 0, fun _ _ => none) 0) rfl (ha_1 4 _ _) (nlt_0 (by omega)) (cl_of (by omega)) (by decide) (by decide) (by decide) dX9_init_88 (fun q24 hq24 => ?_)
  refine r_putrF hC 21 (ci := 9) hNm rfl u9_in tyX9_ok nmX9 (by decide) mT_5_125 rfl rfl rfl rfl dX9_init_90 (c22.kq hq24) rfl rfl (fun R24 eR24 => ?_)
  have c24 := c22.row (n := 4) (kd := 41) (k := 21) (by decide) hq24 rfl (by simp) eR24
  generalize va_up K22 q24 (41) = K24 at c24 ⊢
  generalize va_up len22 q24 4 = len24 at c24 ⊢
  generalize z2 I22 q24 0 = I24 at c24 ⊢
  generalize z2 J22 q24 0 = J24
  refine r_aload_n hC dX9_init_93 0 rfl ?_
  refine r_iconst hC (v := (4)) dX9_init_94 (by decide) (by decide) (fun z25 ez25 tz25 => ?_)
  refine r_newarray hC (atype := .int) (ty := .int) (kd := 41) (t := 1) (N := 4) rfl mT_1_152 rfl rfl rfl (by decide) (fun _ h => h) (4, arE 1 (K24, len24, fun _ _ => 0, fun _ _ => 0, fun _ _ => none) 0) rfl (ha_1 4 _ _) (nlt_0 (by omega)) (cl_of (by omega)) (by decide) (by decide) (by decide) dX9_init_95 (fun q26 hq26 => ?_)
  refine r_putrF hC 22 (ci := 9) hNm rfl u9_in tyX9_ok nmX9 (by decide) mT_5_127 rfl rfl rfl rfl dX9_init_97 (c24.kq hq26) rfl rfl (fun R26 eR26 => ?_)
  have c26 := c24.row (n := 4) (kd := 41) (k := 22) (by decide) hq26 rfl (by simp) eR26
  generalize va_up K24 q26 (41) = K26 at c26 ⊢
  generalize va_up len24 q26 4 = len26 at c26 ⊢
  generalize z2 I24 q26 0 = I26 at c26 ⊢
  generalize z2 J24 q26 0 = J26
  refine r_aload_n hC dX9_init_100 0 rfl ?_
  refine r_iconst hC (v := (4)) dX9_init_101 (by decide) (by decide) (fun z27 ez27 tz27 => ?_)
  refine r_newarray hC (atype := .int) (ty := .int) (kd := 41) (t := 1) (N := 4) rfl mT_1_152 rfl rfl rfl (by decide) (fun _ h => h) (4, arE 1 (K26, len26, fun _ _ => 0, fun _ _ => 0, fun _ _ => none) 0) rfl (ha_1 4 _ _) (nlt_0 (by omega)) (cl_of (by omega)) (by decide) (by decide) (by decide) dX9_init_102 (fun q28 hq28 => ?_)
  refine r_putrF hC 23 (ci := 9) hNm rfl u9_in tyX9_ok nmX9 (by decide) mT_5_129 rfl rfl rfl rfl dX9_init_104 (c26.kq hq28) rfl rfl (fun R28 eR28 => ?_)
  have c28 := c26.row (n := 4) (kd := 41) (k := 23) (by decide) hq28 rfl (by simp) eR28
  generalize va_up K26 q28 (41) = K28 at c28 ⊢
  generalize va_up len26 q28 4 = len28 at c28 ⊢
  generalize z2 I26 q28 0 = I28 at c28 ⊢
  generalize z2 J26 q28 0 = J28
  refine r_aload_n hC dX9_init_107 0 rfl ?_
  refine r_iconst hC (v := (4)) dX9_init_108 (by decide) (by decide) (fun z29 ez29 tz29 => ?_)
  refine r_newarray hC (atype := .int) (ty := .int) (kd := 41) (t := 1) (N := 4) rfl mT_1_152 rfl rfl rfl (by decide) (fun _ h => h) (4, arE 1 (K28, len28, fun _ _ => 0, fun _ _ => 0, fun _ _ => none) 0) rfl (ha_1 4 _ _) (nlt_0 (by omega)) (cl_of (by omega)) (by decide) (by decide) (by decide) dX9_init_109 (fun q30 hq30 => ?_)
  refine r_putrF hC 24 (ci := 9) hNm rfl u9_in tyX9_ok nmX9 (by decide) mT_5_131 rfl rfl rfl rfl dX9_init_111 (c28.kq hq30) rfl rfl (fun R30 eR30 => ?_)
  have c30 := c28.row (n := 4) (kd := 41) (k := 24) (by decide) hq30 rfl (by simp) eR30
  generalize va_up K28 q30 (41) = K30 at c30 ⊢
  generalize va_up len28 q30 4 = len30 at c30 ⊢
  generalize z2 I28 q30 0 = I30 at c30 ⊢
  generalize z2 J28 q30 0 = J30
  refine r_aload_n hC dX9_init_114 0 rfl ?_
  refine r_bipush hC (v := (19)) dX9_init_115 (by decide) (by decide) (fun z31 ez31 tz31 => ?_)
  refine r_newarray hC (atype := .long) (ty := .long) (kd := 42) (t := 2) (N := 19) rfl mT_1_80 rfl rfl rfl (by decide) (fun _ h => h) (19, arE 2 (K30, len30, fun _ _ => 0, fun _ _ => 0, fun _ _ => none) 0) rfl (ha_2 19 _ _) (nlt_0 (by omega)) (cl_of (by omega)) (by decide) (by decide) (by decide) dX9_init_117 (fun q32 hq32 => ?_)
  refine r_putrF hC 25 (ci := 9) hNm rfl u9_in tyX9_ok nmX9 (by decide) mT_5_133 rfl rfl rfl rfl dX9_init_119 (c30.kq hq32) rfl rfl (fun R32 eR32 => ?_)
  have c32 := c30.row (n := 19) (kd := 42) (k := 25) (by decide) hq32 rfl (by simp) eR32
  generalize va_up K30 q32 (42) = K32 at c32 ⊢
  generalize va_up len30 q32 19 = len32 at c32 ⊢
  generalize z2 I30 q32 0 = I32 at c32 ⊢
  generalize z2 J30 q32 0 = J32
  refine r_aload_n hC dX9_init_122 0 rfl ?_
  refine r_bipush hC (v := (19)) dX9_init_123 (by decide) (by decide) (fun z33 ez33 tz33 => ?_)
  refine r_newarray hC (atype := .int) (ty := .int) (kd := 41) (t := 1) (N := 19) rfl mT_1_152 rfl rfl rfl (by decide) (fun _ h => h) (19, arE 1 (K32, len32, fun _ _ => 0, fun _ _ => 0, fun _ _ => none) 0) rfl (ha_1 19 _ _) (nlt_0 (by omega)) (cl_of (by omega)) (by decide) (by decide) (by decide) dX9_init_125 (fun q34 hq34 => ?_)
  refine r_putrF hC 26 (ci := 9) hNm rfl u9_in tyX9_ok nmX9 (by decide) mT_5_135 rfl rfl rfl rfl dX9_init_127 (c32.kq hq34) rfl rfl (fun R34 eR34 => ?_)
  have c34 := c32.row (n := 19) (kd := 41) (k := 26) (by decide) hq34 rfl (by simp) eR34
  generalize va_up K32 q34 (41) = K34 at c34 ⊢
  generalize va_up len32 q34 19 = len34 at c34 ⊢
  generalize z2 I32 q34 0 = I34 at c34 ⊢
  generalize z2 J32 q34 0 = J34
  refine r_aload_n hC dX9_init_130 0 rfl ?_
  refine r_bipush hC (v := (19)) dX9_init_131 (by decide) (by decide) (fun z35 ez35 tz35 => ?_)
  refine r_newarray hC (atype := .int) (ty := .int) (kd := 41) (t := 1) (N := 19) rfl mT_1_152 rfl rfl rfl (by decide) (fun _ h => h) (19, arE 1 (K34, len34, fun _ _ => 0, fun _ _ => 0, fun _ _ => none) 0) rfl (ha_1 19 _ _) (nlt_0 (by omega)) (cl_of (by omega)) (by decide) (by decide) (by decide) dX9_init_133 (fun q36 hq36 => ?_)
  refine r_putrF hC 27 (ci := 9) hNm rfl u9_in tyX9_ok nmX9 (by decide) mT_5_137 rfl rfl rfl rfl dX9_init_135 (c34.kq hq36) rfl rfl (fun R36 eR36 => ?_)
  have c36 := c34.row (n := 19) (kd := 41) (k := 27) (by decide) hq36 rfl (by simp) eR36
  generalize va_up K34 q36 (41) = K36 at c36 ⊢
  generalize va_up len34 q36 19 = len36 at c36 ⊢
  generalize z2 I34 q36 0 = I36 at c36 ⊢
  generalize z2 J34 q36 0 = J36
  refine r_seal (q := a0) (ci := 9) c36.2.1 rfl rfl ?_
  have md37 := c36.made (J := J36) (by decide) (by simp [refT]) (rz9) (fun _ => by decide) (fun z => absurd z (by decide)) (fun _ => ⟨by decide, q16, q20, by simp, by simp⟩)
  exact r_vret hC hQ hlk hr (by decide) (by decide) dX9_init_138 ⟨rfl, md37⟩
