theorem ha_0 (N : Nat) (K len : Nat → Nat) (cA : ClassId) : vp_cell cA (N, arE 0 (K, len, fun _ _ => 0, fun _ _ => 0, fun _ _ => none) 0) = arrV cA N (fun _ => defaultValue .byte) := rfl
theorem ha_1 (N : Nat) (K len : Nat → Nat) (cA : ClassId) : vp_cell cA (N, arE 1 (K, len, fun _ _ => 0, fun _ _ => 0, fun _ _ => none) 0) = arrV cA N (fun _ => defaultValue .int) := rfl
theorem ha_2 (N : Nat) (K len : Nat → Nat) (cA : ClassId) : vp_cell cA (N, arE 2 (K, len, fun _ _ => 0, fun _ _ => 0, fun _ _ => none) 0) = arrV cA N (fun _ => defaultValue .long) := rfl
theorem ha_3 (N : Nat) (K len : Nat → Nat) (cA : ClassId) : vp_cell cA (N, arE 3 (K, len, fun _ _ => 0, fun _ _ => 0, fun _ _ => none) 0) = arrV cA N (fun _ => defaultValue .boolean) := rfl
theorem pk_big {q : Nat} (h : 1000 ≤ q) : pk q = true := by unfold pk; simp only [Bool.or_eq_true, Nat.ble_eq]; exact Or.inr h
theorem kup {K : Nat → Nat} {q kd b x : Nat} (hq : K q = 0) (hb : K b = x) (hx : x ≠ 0) : va_up K q kd b = x := by rw [va_up_ne _ _ (fun z => hx (by rw [← hb, z, hq]))]; exact hb
theorem Con.fresh {K0 len0 : Nat → Nat} {I0 : Nat → Nat → Int32} {R0 : Nat → Nat → Option Nat} {a ci : Nat} {Z : Nat → Int32} {F : List (Nat × Nat × Nat × Nat)} {K len : Nat → Nat} {I : Nat → Nat → Int32} {R : Nat → Nat → Option Nat} {q : Nat} (c : Con K0 len0 I0 R0 a ci Z F K len I R) (hq : K q = 0) : K0 q = 0 := by
  apply Classical.byContradiction
  intro h
  have := (c.2.2.2.2.2 q h (fun z => c.ne0 (by rw [← z]; exact hq))).1
  rw [hq] at this; exact h this.symm
theorem Con.perm {K0 len0 : Nat → Nat} {I0 : Nat → Nat → Int32} {R0 : Nat → Nat → Option Nat} {a ci : Nat} {Z : Nat → Int32} {F F' : List (Nat × Nat × Nat × Nat)} {K len : Nat → Nat} {I : Nat → Nat → Int32} {R : Nat → Nat → Option Nat} (c : Con K0 len0 I0 R0 a ci Z F K len I R) (h1 : ∀ e ∈ F', e ∈ F) (h2 : ∀ e ∈ F, e ∈ F') : Con K0 len0 I0 R0 a ci Z F' K len I R := ⟨c.1, c.2.1, c.2.2.1, fun e he => c.2.2.2.1 e (h1 e he), fun k hk => c.2.2.2.2.1 k (fun e he => hk e (h2 e he)), c.2.2.2.2.2⟩
theorem Con.rebase {K0 len0 : Nat → Nat} {I0 : Nat → Nat → Int32} {R0 : Nat → Nat → Option Nat} {a ci : Nat} {Z : Nat → Int32} {F : List (Nat × Nat × Nat × Nat)} {K len : Nat → Nat} {I : Nat → Nat → Int32} {R : Nat → Nat → Option Nat} (c : Con K0 len0 I0 R0 a ci Z F K len I R) : Con K len I R a ci Z F K len I R := ⟨c.1, c.2.1, c.2.2.1, c.2.2.2.1, c.2.2.2.2.1, fun _ _ _ => ⟨rfl, rfl, rfl, rfl⟩⟩
theorem Con.madeT {K0 len0 : Nat → Nat} {I0 : Nat → Nat → Int32} {R0 : Nat → Nat → Option Nat} {a ci : Nat} {Z Z' : Nat → Int32} {F : List (Nat × Nat × Nat × Nat)} {K len : Nat → Nat} {I : Nat → Nat → Int32} {R : Nat → Nat → Option Nat} {M : MM} (c : Con K0 len0 I0 R0 a ci Z F K len I R) (h : Made K len I R a ci Z' M) : Made K0 len0 I0 R0 a ci Z' M := by
  refine ⟨h.1, h.2.1, h.2.2.1, fun b hb hba => ?_⟩
  obtain ⟨h1, h2, h3, h4⟩ := c.2.2.2.2.2 b hb hba
  obtain ⟨g1, g2, g3, g4⟩ := h.2.2.2 b (by rw [h1]; exact hb) hba
  exact ⟨g1.trans h1, g2.trans h2, g3.trans h3, g4.trans h4⟩
theorem rz_all (q : Nat) : ∀ k lo hi, rngI q k = some (lo, hi) → lo ≤ (0 : Int) ∧ (0 : Int) ≤ hi := by
  intro k lo hi; unfold rngI; split <;> intro h <;> first | (cases h; exact ⟨by decide, by decide⟩) | cases h
theorem df0 : ∀ j, j < 7 → defaultValue (tyX0 j) = dfl 0 j := by decide +kernel
theorem rz0 : ∀ k lo hi, rngI (1 + 0) k = some (lo, hi) → lo ≤ ((fun _ => 0 : Nat → Int32) k).toInt ∧ ((fun _ => 0 : Nat → Int32) k).toInt ≤ hi := rz_all _
theorem df1 : ∀ j, j < 15 → defaultValue (tyX1 j) = dfl 1 j := by decide +kernel
theorem rz1 : ∀ k lo hi, rngI (1 + 1) k = some (lo, hi) → lo ≤ ((fun _ => 0 : Nat → Int32) k).toInt ∧ ((fun _ => 0 : Nat → Int32) k).toInt ≤ hi := rz_all _
theorem df2 : ∀ j, j < 8 → defaultValue (tyX2 j) = dfl 2 j := by decide +kernel
theorem rz2 : ∀ k lo hi, rngI (1 + 2) k = some (lo, hi) → lo ≤ ((fun _ => 0 : Nat → Int32) k).toInt ∧ ((fun _ => 0 : Nat → Int32) k).toInt ≤ hi := rz_all _
theorem df3 : ∀ j, j < 5 → defaultValue (tyX3 j) = dfl 3 j := by decide +kernel
theorem rz3 : ∀ k lo hi, rngI (1 + 3) k = some (lo, hi) → lo ≤ ((fun _ => 0 : Nat → Int32) k).toInt ∧ ((fun _ => 0 : Nat → Int32) k).toInt ≤ hi := rz_all _
theorem df4 : ∀ j, j < 4 → defaultValue (tyX4 j) = dfl 4 j := by decide +kernel
theorem rz4 : ∀ k lo hi, rngI (1 + 4) k = some (lo, hi) → lo ≤ ((fun _ => 0 : Nat → Int32) k).toInt ∧ ((fun _ => 0 : Nat → Int32) k).toInt ≤ hi := rz_all _
theorem df5 : ∀ j, j < 2 → defaultValue (tyX5 j) = dfl 5 j := by decide +kernel
theorem rz5 : ∀ k lo hi, rngI (1 + 5) k = some (lo, hi) → lo ≤ ((fun _ => 0 : Nat → Int32) k).toInt ∧ ((fun _ => 0 : Nat → Int32) k).toInt ≤ hi := rz_all _
theorem df6 : ∀ j, j < 7 → defaultValue (tyX6 j) = dfl 6 j := by decide +kernel
theorem rz6 : ∀ k lo hi, rngI (1 + 6) k = some (lo, hi) → lo ≤ ((fun _ => 0 : Nat → Int32) k).toInt ∧ ((fun _ => 0 : Nat → Int32) k).toInt ≤ hi := rz_all _
theorem df7 : ∀ j, j < 6 → defaultValue (tyX7 j) = dfl 7 j := by decide +kernel
theorem rz7 : ∀ k lo hi, rngI (1 + 7) k = some (lo, hi) → lo ≤ ((fun _ => 0 : Nat → Int32) k).toInt ∧ ((fun _ => 0 : Nat → Int32) k).toInt ≤ hi := rz_all _
theorem df8 : ∀ j, j < 13 → defaultValue (tyX8 j) = dfl 8 j := by decide +kernel
theorem rz8 : ∀ k lo hi, rngI (1 + 8) k = some (lo, hi) → lo ≤ ((va_up (fun _ => 0) 12 0) k : Int32).toInt ∧ ((va_up (fun _ => 0) 12 0) k : Int32).toInt ≤ hi := by
  intro k lo hi h
  by_cases hk : k = 12
  · subst hk; cases h
  · rw [va_up_ne _ _ hk]; exact rz_all _ k lo hi h
theorem df9 : ∀ j, j < 28 → defaultValue (tyX9 j) = dfl 9 j := by decide +kernel
theorem rz9 : ∀ k lo hi, rngI (1 + 9) k = some (lo, hi) → lo ≤ ((va_up (fun _ => 0) 0 (-1)) k : Int32).toInt ∧ ((va_up (fun _ => 0) 0 (-1)) k : Int32).toInt ≤ hi := by
  intro k lo hi h
  by_cases hk : k = 0
  · subst hk; cases h
  · rw [va_up_ne _ _ hk]; exact rz_all _ k lo hi h
theorem df10 : ∀ j, j < 26 → defaultValue (tyX10 j) = dfl 10 j := by decide +kernel
theorem rz10 : ∀ k lo hi, rngI (1 + 10) k = some (lo, hi) → lo ≤ ((va_up (fun _ => 0) 2 (-1)) k : Int32).toInt ∧ ((va_up (fun _ => 0) 2 (-1)) k : Int32).toInt ≤ hi := by
  intro k lo hi h
  by_cases hk : k = 2
  · subst hk; cases h
  · rw [va_up_ne _ _ hk]; exact rz_all _ k lo hi h
abbrev rmX4_init : Room := { frames := 1, cells := 0, slots := 0, locals := 20 }
set_option maxHeartbeats 4000000 in
set_option maxRecDepth 100000 in
theorem c_X4_init (g : GG) (l : Launch) (K len : Nat → Nat) (I : Nat → Nat → Int32) (J : Nat → Nat → Int64) (R : Nat → Nat → Option Nat) (hs : Sf K len I R) (a0 : Nat) (ka0 : K a0 = 21 + 4) (hz : I a0 = fun _ => 0) (hn : ∀ k, R a0 k = none) : Ct g l yX4_init cX4_init 1 none rmX4_init [.ref a0] (K, len, I, J, R) (pV5 (Made K len I R a0 4 (fun _ => 0))) := by
  refine Ct_intro (by decide +kernel) (Nat.le_of_ble_eq_true rfl) (fun X hC hL hKK hNm hr hlk hQ => ?_)
  subst hL
  have hC : Cx g X cX4_init "HillTap$Story" 1 rmX4_init := hC
  show P g X 1 0 [(0, .ref a0)] [] 0 0 (K, len, I, J, R)
  have c0 : Con K len I R a0 4 (fun _ => 0) [] K len I R := Con.start hs ka0 hz hn
  refine r_aload_n hC dX4_init_0 0 rfl ?_
  refine r_objInit hC mT_1_159 mT_1_28 mT_1_29 dX4_init_1 (by decide) (by decide) ?_
  refine r_seal (q := a0) (ci := 4) c0.2.1 rfl rfl ?_
  have md1 := c0.made (J := J) (by decide) (by simp [refT]) (rz4) (fun z => absurd z (by decide)) (fun z => absurd z (by decide)) (fun z => absurd z (by decide))
  exact r_vret hC hQ hlk hr (by decide) (by decide) dX4_init_4 ⟨rfl, md1⟩
abbrev rmX5_init : Room := { frames := 1, cells := 1, slots := 900, locals := 20 }
set_option maxHeartbeats 4000000 in
set_option maxRecDepth 100000 in
theorem c_X5_init (g : GG) (l : Launch) (K len : Nat → Nat) (I : Nat → Nat → Int32) (J : Nat → Nat → Int64) (R : Nat → Nat → Option Nat) (hs : Sf K len I R) (a0 : Nat) (ka0 : K a0 = 21 + 5) (hz : I a0 = fun _ => 0) (hn : ∀ k, R a0 k = none) : Ct g l yX5_init cX5_init 1 none rmX5_init [.ref a0] (K, len, I, J, R) (pV5 (Made K len I R a0 5 (fun _ => 0))) := by
  refine Ct_intro (by decide +kernel) (Nat.le_of_ble_eq_true rfl) (fun X hC hL hKK hNm hr hlk hQ => ?_)
  subst hL
  have hC : Cx g X cX5_init "HillTap$Tape" 1 rmX5_init := hC
  show P g X 1 0 [(0, .ref a0)] [] 0 0 (K, len, I, J, R)
  have c0 : Con K len I R a0 5 (fun _ => 0) [] K len I R := Con.start hs ka0 hz hn
  refine r_aload_n hC dX5_init_0 0 rfl ?_
  refine r_objInit hC mT_1_35 mT_1_28 mT_1_29 dX5_init_1 (by decide) (by decide) ?_
  refine r_aload_n hC dX5_init_4 0 rfl ?_
  refine r_sipush hC (v := (900)) dX5_init_5 (by decide) (by decide) (fun z1 ez1 tz1 => ?_)
  refine r_newarray hC (atype := .byte) (ty := .byte) (kd := 40) (t := 0) (N := 900) rfl mT_1_46 rfl rfl rfl (by decide) (fun _ h => h) (900, arE 0 (K, len, fun _ _ => 0, fun _ _ => 0, fun _ _ => none) 0) rfl (ha_0 900 _ _) (nlt_0 (by omega)) (cl_of (by omega)) (by decide) (by decide) (by decide) dX5_init_8 (fun q2 hq2 => ?_)
  refine r_putrF hC 0 (ci := 5) hNm rfl u5_in tyX5_ok nmX5 (by decide) mT_1_36 rfl rfl rfl rfl dX5_init_10 (c0.kq hq2) rfl rfl (fun R2 eR2 => ?_)
  have c2 := c0.row (n := 900) (kd := 40) (k := 0) (by decide) hq2 rfl (by simp) eR2
  generalize va_up K q2 (40) = K2 at c2 ⊢
  generalize va_up len q2 900 = len2 at c2 ⊢
  generalize z2 I q2 0 = I2 at c2 ⊢
  generalize z2 J q2 0 = J2
  refine r_seal (q := a0) (ci := 5) c2.2.1 rfl rfl ?_
  have md3 := c2.made (J := J2) (by decide) (by simp [refT]) (rz5) (fun z => absurd z (by decide)) (fun z => absurd z (by decide)) (fun z => absurd z (by decide))
  exact r_vret hC hQ hlk hr (by decide) (by decide) dX5_init_13 ⟨rfl, md3⟩
abbrev rmX2_init : Room := { frames := 1, cells := 2, slots := 32, locals := 20 }
set_option maxHeartbeats 4000000 in
set_option maxRecDepth 100000 in
theorem c_X2_init (g : GG) (l : Launch) (K len : Nat → Nat) (I : Nat → Nat → Int32) (J : Nat → Nat → Int64) (R : Nat → Nat → Option Nat) (hs : Sf K len I R) (a0 : Nat) (ka0 : K a0 = 21 + 2) (hz : I a0 = fun _ => 0) (hn : ∀ k, R a0 k = none) : Ct g l yX2_init cX2_init 1 none rmX2_init [.ref a0] (K, len, I, J, R) (pV5 (Made K len I R a0 2 (fun _ => 0))) := by
  refine Ct_intro (by decide +kernel) (Nat.le_of_ble_eq_true rfl) (fun X hC hL hKK hNm hr hlk hQ => ?_)
  subst hL
  have hC : Cx g X cX2_init "HillTap$Lake" 1 rmX2_init := hC
  show P g X 1 0 [(0, .ref a0)] [] 0 0 (K, len, I, J, R)
  have c0 : Con K len I R a0 2 (fun _ => 0) [] K len I R := Con.start hs ka0 hz hn
  refine r_aload_n hC dX2_init_0 0 rfl ?_
  refine r_objInit hC mT_1_116 mT_1_28 mT_1_29 dX2_init_1 (by decide) (by decide) ?_
  refine r_aload_n hC dX2_init_4 0 rfl ?_
  refine r_bipush hC (v := (16)) dX2_init_5 (by decide) (by decide) (fun z1 ez1 tz1 => ?_)
  refine r_newarray hC (atype := .int) (ty := .int) (kd := 41) (t := 1) (N := 16) rfl mT_1_152 rfl rfl rfl (by decide) (fun _ h => h) (16, arE 1 (K, len, fun _ _ => 0, fun _ _ => 0, fun _ _ => none) 0) rfl (ha_1 16 _ _) (nlt_0 (by omega)) (cl_of (by omega)) (by decide) (by decide) (by decide) dX2_init_7 (fun q2 hq2 => ?_)
  refine r_putrF hC 6 (ci := 2) hNm rfl u2_in tyX2_ok nmX2 (by decide) mT_1_133 rfl rfl rfl rfl dX2_init_9 (c0.kq hq2) rfl rfl (fun R2 eR2 => ?_)
  have c2 := c0.row (n := 16) (kd := 41) (k := 6) (by decide) hq2 rfl (by simp) eR2
  generalize va_up K q2 (41) = K2 at c2 ⊢
  generalize va_up len q2 16 = len2 at c2 ⊢
  generalize z2 I q2 0 = I2 at c2 ⊢
  generalize z2 J q2 0 = J2
  refine r_aload_n hC dX2_init_12 0 rfl ?_
  refine r_bipush hC (v := (16)) dX2_init_13 (by decide) (by decide) (fun z3 ez3 tz3 => ?_)
  refine r_newarray hC (atype := .int) (ty := .int) (kd := 41) (t := 1) (N := 16) rfl mT_1_152 rfl rfl rfl (by decide) (fun _ h => h) (16, arE 1 (K2, len2, fun _ _ => 0, fun _ _ => 0, fun _ _ => none) 0) rfl (ha_1 16 _ _) (nlt_0 (by omega)) (cl_of (by omega)) (by decide) (by decide) (by decide) dX2_init_15 (fun q4 hq4 => ?_)
  refine r_putrF hC 7 (ci := 2) hNm rfl u2_in tyX2_ok nmX2 (by decide) mT_1_134 rfl rfl rfl rfl dX2_init_17 (c2.kq hq4) rfl rfl (fun R4 eR4 => ?_)
  have c4 := c2.row (n := 16) (kd := 41) (k := 7) (by decide) hq4 rfl (by simp) eR4
  generalize va_up K2 q4 (41) = K4 at c4 ⊢
  generalize va_up len2 q4 16 = len4 at c4 ⊢
  generalize z2 I2 q4 0 = I4 at c4 ⊢
  generalize z2 J2 q4 0 = J4
  refine r_seal (q := a0) (ci := 2) c4.2.1 rfl rfl ?_
  have md5 := c4.made (J := J4) (by decide) (by simp [refT]) (rz2) (fun _ => by decide) (fun z => absurd z (by decide)) (fun z => absurd z (by decide))
  exact r_vret hC hQ hlk hr (by decide) (by decide) dX2_init_20 ⟨rfl, md5⟩
abbrev rmX3_init : Room := { frames := 1, cells := 4, slots := 96, locals := 20 }
set_option maxHeartbeats 4000000 in
set_option maxRecDepth 100000 in
theorem c_X3_init (g : GG) (l : Launch) (K len : Nat → Nat) (I : Nat → Nat → Int32) (J : Nat → Nat → Int64) (R : Nat → Nat → Option Nat) (hs : Sf K len I R) (a0 : Nat) (ka0 : K a0 = 21 + 3) (hz : I a0 = fun _ => 0) (hn : ∀ k, R a0 k = none) : Ct g l yX3_init cX3_init 1 none rmX3_init [.ref a0] (K, len, I, J, R) (pV5 (Made K len I R a0 3 (fun _ => 0))) := by
  refine Ct_intro (by decide +kernel) (Nat.le_of_ble_eq_true rfl) (fun X hC hL hKK hNm hr hlk hQ => ?_)
  subst hL
  have hC : Cx g X cX3_init "HillTap$Readings" 1 rmX3_init := hC
  show P g X 1 0 [(0, .ref a0)] [] 0 0 (K, len, I, J, R)
  have c0 : Con K len I R a0 3 (fun _ => 0) [] K len I R := Con.start hs ka0 hz hn
  refine r_aload_n hC dX3_init_0 0 rfl ?_
  refine r_objInit hC mT_2_59 mT_1_28 mT_1_29 dX3_init_1 (by decide) (by decide) ?_
  refine r_aload_n hC dX3_init_4 0 rfl ?_
  refine r_bipush hC (v := (24)) dX3_init_5 (by decide) (by decide) (fun z1 ez1 tz1 => ?_)
  refine r_newarray hC (atype := .int) (ty := .int) (kd := 46) (t := 1) (N := 24) rfl mT_1_152 rfl rfl rfl (by decide) (fun _ h => h) (24, arE 1 (K, len, fun _ _ => 0, fun _ _ => 0, fun _ _ => none) 0) rfl (ha_1 24 _ _) (nlt_0 (by omega)) (cl_of (by omega)) (by decide) (by decide) (by decide) dX3_init_7 (fun q2 hq2 => ?_)
  refine r_putrF hC 1 (ci := 3) hNm rfl u3_in tyX3_ok nmX3 (by decide) mT_2_62 rfl rfl rfl rfl dX3_init_9 (c0.kq hq2) rfl rfl (fun R2 eR2 => ?_)
  have c2 := c0.row (n := 24) (kd := 46) (k := 1) (by decide) hq2 rfl (by simp) eR2
  generalize va_up K q2 (46) = K2 at c2 ⊢
  generalize va_up len q2 24 = len2 at c2 ⊢
  generalize z2 I q2 0 = I2 at c2 ⊢
  generalize z2 J q2 0 = J2
  refine r_aload_n hC dX3_init_12 0 rfl ?_
  refine r_bipush hC (v := (24)) dX3_init_13 (by decide) (by decide) (fun z3 ez3 tz3 => ?_)
  refine r_newarray hC (atype := .int) (ty := .int) (kd := 47) (t := 1) (N := 24) rfl mT_1_152 rfl rfl rfl (by decide) (fun _ h => h) (24, arE 1 (K2, len2, fun _ _ => 0, fun _ _ => 0, fun _ _ => none) 0) rfl (ha_1 24 _ _) (nlt_0 (by omega)) (cl_of (by omega)) (by decide) (by decide) (by decide) dX3_init_15 (fun q4 hq4 => ?_)
  refine r_putrF hC 2 (ci := 3) hNm rfl u3_in tyX3_ok nmX3 (by decide) mT_2_63 rfl rfl rfl rfl dX3_init_17 (c2.kq hq4) rfl rfl (fun R4 eR4 => ?_)
  have c4 := c2.row (n := 24) (kd := 47) (k := 2) (by decide) hq4 rfl (by simp) eR4
  generalize va_up K2 q4 (47) = K4 at c4 ⊢
  generalize va_up len2 q4 24 = len4 at c4 ⊢
  generalize z2 I2 q4 0 = I4 at c4 ⊢
  generalize z2 J2 q4 0 = J4
  refine r_aload_n hC dX3_init_20 0 rfl ?_
  refine r_bipush hC (v := (24)) dX3_init_21 (by decide) (by decide) (fun z5 ez5 tz5 => ?_)
  refine r_newarray hC (atype := .int) (ty := .int) (kd := 41) (t := 1) (N := 24) rfl mT_1_152 rfl rfl rfl (by decide) (fun _ h => h) (24, arE 1 (K4, len4, fun _ _ => 0, fun _ _ => 0, fun _ _ => none) 0) rfl (ha_1 24 _ _) (nlt_0 (by omega)) (cl_of (by omega)) (by decide) (by decide) (by decide) dX3_init_23 (fun q6 hq6 => ?_)
  refine r_putrF hC 3 (ci := 3) hNm rfl u3_in tyX3_ok nmX3 (by decide) mT_2_64 rfl rfl rfl rfl dX3_init_25 (c4.kq hq6) rfl rfl (fun R6 eR6 => ?_)
  have c6 := c4.row (n := 24) (kd := 41) (k := 3) (by decide) hq6 rfl (by simp) eR6
  generalize va_up K4 q6 (41) = K6 at c6 ⊢
  generalize va_up len4 q6 24 = len6 at c6 ⊢
  generalize z2 I4 q6 0 = I6 at c6 ⊢
  generalize z2 J4 q6 0 = J6
  refine r_aload_n hC dX3_init_28 0 rfl ?_
  refine r_bipush hC (v := (24)) dX3_init_29 (by decide) (by decide) (fun z7 ez7 tz7 => ?_)
  refine r_newarray hC (atype := .int) (ty := .int) (kd := 41) (t := 1) (N := 24) rfl mT_1_152 rfl rfl rfl (by decide) (fun _ h => h) (24, arE 1 (K6, len6, fun _ _ => 0, fun _ _ => 0, fun _ _ => none) 0) rfl (ha_1 24 _ _) (nlt_0 (by omega)) (cl_of (by omega)) (by decide) (by decide) (by decide) dX3_init_31 (fun q8 hq8 => ?_)
  refine r_putrF hC 4 (ci := 3) hNm rfl u3_in tyX3_ok nmX3 (by decide) mT_2_65 rfl rfl rfl rfl dX3_init_33 (c6.kq hq8) rfl rfl (fun R8 eR8 => ?_)
  have c8 := c6.row (n := 24) (kd := 41) (k := 4) (by decide) hq8 rfl (by simp) eR8
  generalize va_up K6 q8 (41) = K8 at c8 ⊢
  generalize va_up len6 q8 24 = len8 at c8 ⊢
  generalize z2 I6 q8 0 = I8 at c8 ⊢
  generalize z2 J6 q8 0 = J8
  refine r_seal (q := a0) (ci := 3) c8.2.1 rfl rfl ?_
  have md9 := c8.made (J := J8) (by decide) (by simp [refT]) (rz3) (fun z => absurd z (by decide)) (fun z => absurd z (by decide)) (fun z => absurd z (by decide))
  exact r_vret hC hQ hlk hr (by decide) (by decide) dX3_init_36 ⟨rfl, md9⟩
abbrev rmX0_init : Room := { frames := 1, cells := 5, slots := 1020, locals := 20 }
set_option maxHeartbeats 4000000 in
set_option maxRecDepth 100000 in
theorem c_X0_init (g : GG) (l : Launch) (K len : Nat → Nat) (I : Nat → Nat → Int32) (J : Nat → Nat → Int64) (R : Nat → Nat → Option Nat) (hs : Sf K len I R) (a0 : Nat) (ka0 : K a0 = 21 + 0) (hz : I a0 = fun _ => 0) (hn : ∀ k, R a0 k = none) : Ct g l yX0_init cX0_init 1 none rmX0_init [.ref a0] (K, len, I, J, R) (pV5 (Made K len I R a0 0 (fun _ => 0))) := by
  refine Ct_intro (by decide +kernel) (Nat.le_of_ble_eq_true rfl) (fun X hC hL hKK hNm hr hlk hQ => ?_)
  subst hL
  have hC : Cx g X cX0_init "HillTap$Course" 1 rmX0_init := hC
  show P g X 1 0 [(0, .ref a0)] [] 0 0 (K, len, I, J, R)
  have c0 : Con K len I R a0 0 (fun _ => 0) [] K len I R := Con.start hs ka0 hz hn
  refine r_aload_n hC dX0_init_0 0 rfl ?_
  refine r_objInit hC mT_2_24 mT_1_28 mT_1_29 dX0_init_1 (by decide) (by decide) ?_
  refine r_aload_n hC dX0_init_4 0 rfl ?_
  refine r_sipush hC (v := (300)) dX0_init_5 (by decide) (by decide) (fun z1 ez1 tz1 => ?_)
  refine r_newarray hC (atype := .int) (ty := .int) (kd := 41) (t := 1) (N := 300) rfl mT_1_152 rfl rfl rfl (by decide) (fun _ h => h) (300, arE 1 (K, len, fun _ _ => 0, fun _ _ => 0, fun _ _ => none) 0) rfl (ha_1 300 _ _) (nlt_0 (by omega)) (cl_of (by omega)) (by decide) (by decide) (by decide) dX0_init_8 (fun q2 hq2 => ?_)
  refine r_putrF hC 0 (ci := 0) hNm rfl u0_in tyX0_ok nmX0 (by decide) mT_2_25 rfl rfl rfl rfl dX0_init_10 (c0.kq hq2) rfl rfl (fun R2 eR2 => ?_)
  have c2 := c0.row (n := 300) (kd := 41) (k := 0) (by decide) hq2 rfl (by simp) eR2
  generalize va_up K q2 (41) = K2 at c2 ⊢
  generalize va_up len q2 300 = len2 at c2 ⊢
  generalize z2 I q2 0 = I2 at c2 ⊢
  generalize z2 J q2 0 = J2
  refine r_aload_n hC dX0_init_13 0 rfl ?_
  refine r_sipush hC (v := (300)) dX0_init_14 (by decide) (by decide) (fun z3 ez3 tz3 => ?_)
  refine r_newarray hC (atype := .int) (ty := .int) (kd := 41) (t := 1) (N := 300) rfl mT_1_152 rfl rfl rfl (by decide) (fun _ h => h) (300, arE 1 (K2, len2, fun _ _ => 0, fun _ _ => 0, fun _ _ => none) 0) rfl (ha_1 300 _ _) (nlt_0 (by omega)) (cl_of (by omega)) (by decide) (by decide) (by decide) dX0_init_17 (fun q4 hq4 => ?_)
  refine r_putrF hC 1 (ci := 0) hNm rfl u0_in tyX0_ok nmX0 (by decide) mT_2_27 rfl rfl rfl rfl dX0_init_19 (c2.kq hq4) rfl rfl (fun R4 eR4 => ?_)
  have c4 := c2.row (n := 300) (kd := 41) (k := 1) (by decide) hq4 rfl (by simp) eR4
  generalize va_up K2 q4 (41) = K4 at c4 ⊢
  generalize va_up len2 q4 300 = len4 at c4 ⊢
  generalize z2 I2 q4 0 = I4 at c4 ⊢
  generalize z2 J2 q4 0 = J4
  refine r_aload_n hC dX0_init_22 0 rfl ?_
  refine r_sipush hC (v := (300)) dX0_init_23 (by decide) (by decide) (fun z5 ez5 tz5 => ?_)
  refine r_newarray hC (atype := .int) (ty := .int) (kd := 41) (t := 1) (N := 300) rfl mT_1_152 rfl rfl rfl (by decide) (fun _ h => h) (300, arE 1 (K4, len4, fun _ _ => 0, fun _ _ => 0, fun _ _ => none) 0) rfl (ha_1 300 _ _) (nlt_0 (by omega)) (cl_of (by omega)) (by decide) (by decide) (by decide) dX0_init_26 (fun q6 hq6 => ?_)
  refine r_putrF hC 2 (ci := 0) hNm rfl u0_in tyX0_ok nmX0 (by decide) mT_2_30 rfl rfl rfl rfl dX0_init_28 (c4.kq hq6) rfl rfl (fun R6 eR6 => ?_)
  have c6 := c4.row (n := 300) (kd := 41) (k := 2) (by decide) hq6 rfl (by simp) eR6
  generalize va_up K4 q6 (41) = K6 at c6 ⊢
  generalize va_up len4 q6 300 = len6 at c6 ⊢
  generalize z2 I4 q6 0 = I6 at c6 ⊢
  generalize z2 J4 q6 0 = J6
  refine r_aload_n hC dX0_init_31 0 rfl ?_
  refine r_bipush hC (v := (60)) dX0_init_32 (by decide) (by decide) (fun z7 ez7 tz7 => ?_)
  refine r_newarray hC (atype := .int) (ty := .int) (kd := 41) (t := 1) (N := 60) rfl mT_1_152 rfl rfl rfl (by decide) (fun _ h => h) (60, arE 1 (K6, len6, fun _ _ => 0, fun _ _ => 0, fun _ _ => none) 0) rfl (ha_1 60 _ _) (nlt_0 (by omega)) (cl_of (by omega)) (by decide) (by decide) (by decide) dX0_init_34 (fun q8 hq8 => ?_)
  refine r_putrF hC 3 (ci := 0) hNm rfl u0_in tyX0_ok nmX0 (by decide) mT_2_32 rfl rfl rfl rfl dX0_init_36 (c6.kq hq8) rfl rfl (fun R8 eR8 => ?_)
  have c8 := c6.row (n := 60) (kd := 41) (k := 3) (by decide) hq8 rfl (by simp) eR8
  generalize va_up K6 q8 (41) = K8 at c8 ⊢
  generalize va_up len6 q8 60 = len8 at c8 ⊢
  generalize z2 I6 q8 0 = I8 at c8 ⊢
  generalize z2 J6 q8 0 = J8
  refine r_aload_n hC dX0_init_39 0 rfl ?_
  refine r_bipush hC (v := (60)) dX0_init_40 (by decide) (by decide) (fun z9 ez9 tz9 => ?_)
  refine r_newarray hC (atype := .int) (ty := .int) (kd := 41) (t := 1) (N := 60) rfl mT_1_152 rfl rfl rfl (by decide) (fun _ h => h) (60, arE 1 (K8, len8, fun _ _ => 0, fun _ _ => 0, fun _ _ => none) 0) rfl (ha_1 60 _ _) (nlt_0 (by omega)) (cl_of (by omega)) (by decide) (by decide) (by decide) dX0_init_42 (fun q10 hq10 => ?_)
  refine r_putrF hC 4 (ci := 0) hNm rfl u0_in tyX0_ok nmX0 (by decide) mT_2_34 rfl rfl rfl rfl dX0_init_44 (c8.kq hq10) rfl rfl (fun R10 eR10 => ?_)
  have c10 := c8.row (n := 60) (kd := 41) (k := 4) (by decide) hq10 rfl (by simp) eR10
  generalize va_up K8 q10 (41) = K10 at c10 ⊢
  generalize va_up len8 q10 60 = len10 at c10 ⊢
  generalize z2 I8 q10 0 = I10 at c10 ⊢
  generalize z2 J8 q10 0 = J10
  refine r_seal (q := a0) (ci := 0) c10.2.1 rfl rfl ?_
  have md11 := c10.made (J := J10) (by decide) (by simp [refT]) (rz0) (fun z => absurd z (by decide)) (fun z => absurd z (by decide)) (fun z => absurd z (by decide))
  exact r_vret hC hQ hlk hr (by decide) (by decide) dX0_init_47 ⟨rfl, md11⟩
abbrev rmX7_init : Room := { frames := 1, cells := 0, slots := 0, locals := 20 }
set_option maxHeartbeats 4000000 in
set_option maxRecDepth 100000 in
theorem c_X7_init (g : GG) (l : Launch) (K len : Nat → Nat) (I : Nat → Nat → Int32) (J : Nat → Nat → Int64) (R : Nat → Nat → Option Nat) (hs : Sf K len I R) (a0 : Nat) (ka0 : K a0 = 21 + 7) (hz : I a0 = fun _ => 0) (hn : ∀ k, R a0 k = none) (a1 : Nat) (ka1 : K a1 = 6) : Ct g l yX7_init cX7_init 2 none rmX7_init [.ref a0, .ref a1] (K, len, I, J, R) (pV5 (Made K len I R a0 7 (fun _ => 0))) := by
  refine Ct_intro (by decide +kernel) (Nat.le_of_ble_eq_true rfl) (fun X hC hL hKK hNm hr hlk hQ => ?_)
  subst hL
  have hC : Cx g X cX7_init "HillTap$Tokens" 2 rmX7_init := hC
  show P g X 2 0 [(0, .ref a0), (1, .ref a1)] [] 0 0 (K, len, I, J, R)
  have c0 : Con K len I R a0 7 (fun _ => 0) [] K len I R := Con.start hs ka0 hz hn
  refine r_aload_n hC dX7_init_0 0 rfl ?_
  refine r_objInit hC mT_1_58 mT_1_28 mT_1_29 dX7_init_1 (by decide) (by decide) ?_
  refine r_aload_n hC dX7_init_4 0 rfl ?_
  refine r_aload_n hC dX7_init_5 1 rfl ?_
  refine r_putrF hC 0 (ci := 7) hNm rfl u7_in tyX7_ok nmX7 (by decide) mT_1_59 rfl rfl rfl rfl dX7_init_6 (c0.2.1) rfl rfl (fun R1 eR1 => ?_)
  have c1 := c0.old (n := len a1) (by decide) ka1 rfl (by decide) (fun z => by rw [z, ka0] at ka1; omega) (by simp) eR1
  refine r_seal (q := a0) (ci := 7) c1.2.1 rfl rfl ?_
  have md2 := c1.made (J := J) (by decide) (by simp [refT]) (rz7) (fun z => absurd z (by decide)) (fun z => absurd z (by decide)) (fun z => absurd z (by decide))
  exact r_vret hC hQ hlk hr (by decide) (by decide) dX7_init_9 ⟨rfl, md2⟩
abbrev rmX6_init : Room := { frames := 2, cells := 3, slots := 30, locals := 41 }
set_option maxHeartbeats 4000000 in
set_option maxRecDepth 100000 in
theorem c_X6_init (g : GG) (l : Launch) (K len : Nat → Nat) (I : Nat → Nat → Int32) (J : Nat → Nat → Int64) (R : Nat → Nat → Option Nat) (hs : Sf K len I R) (a0 : Nat) (ka0 : K a0 = 21 + 6) (hz : I a0 = fun _ => 0) (hn : ∀ k, R a0 k = none) (a1 : Nat) (ka1 : K a1 = 6) : Ct g l yX6_init cX6_init 2 none rmX6_init [.ref a0, .ref a1] (K, len, I, J, R) (pV5 (Made K len I R a0 6 (fun _ => 0))) := by
  refine Ct_intro (by decide +kernel) (Nat.le_of_ble_eq_true rfl) (fun X hC hL hKK hNm hr hlk hQ => ?_)
  subst hL
  have hC : Cx g X cX6_init "HillTap$Teller" 2 rmX6_init := hC
  show P g X 2 0 [(0, .ref a0), (1, .ref a1)] [] 0 0 (K, len, I, J, R)
  have c0 : Con K len I R a0 6 (fun _ => 0) [] K len I R := Con.start hs ka0 hz hn
  refine r_aload_n hC dX6_init_0 0 rfl ?_
  refine r_objInit hC mT_1_52 mT_1_28 mT_1_29 dX6_init_1 (by decide) (by decide) ?_
  refine r_aload_n hC dX6_init_4 0 rfl ?_
  refine r_bipush hC (v := (19)) dX6_init_5 (by decide) (by decide) (fun z1 ez1 tz1 => ?_)
  refine r_newarray hC (atype := .long) (ty := .long) (kd := 42) (t := 2) (N := 19) rfl mT_1_80 rfl rfl rfl (by decide) (fun _ h => h) (19, arE 2 (K, len, fun _ _ => 0, fun _ _ => 0, fun _ _ => none) 0) rfl (ha_2 19 _ _) (nlt_0 (by omega)) (cl_of (by omega)) (by decide) (by decide) (by decide) dX6_init_7 (fun q2 hq2 => ?_)
  refine r_putrF hC 1 (ci := 6) hNm rfl u6_in tyX6_ok nmX6 (by decide) mT_1_82 rfl rfl rfl rfl dX6_init_9 (c0.kq hq2) rfl rfl (fun R2 eR2 => ?_)
  have c2 := c0.row (n := 19) (kd := 42) (k := 1) (by decide) hq2 rfl (by simp) eR2
  generalize va_up K q2 (42) = K2 at c2 ⊢
  generalize va_up len q2 19 = len2 at c2 ⊢
  generalize z2 I q2 0 = I2 at c2 ⊢
  generalize z2 J q2 0 = J2
  refine r_aload_n hC dX6_init_12 0 rfl ?_
  refine r_iconst hC (v := (5)) dX6_init_13 (by decide) (by decide) (fun z3 ez3 tz3 => ?_)
  refine r_newarray hC (atype := .long) (ty := .long) (kd := 42) (t := 2) (N := 5) rfl mT_1_80 rfl rfl rfl (by decide) (fun _ h => h) (5, arE 2 (K2, len2, fun _ _ => 0, fun _ _ => 0, fun _ _ => none) 0) rfl (ha_2 5 _ _) (nlt_0 (by omega)) (cl_of (by omega)) (by decide) (by decide) (by decide) dX6_init_14 (fun q4 hq4 => ?_)
  refine r_putrF hC 2 (ci := 6) hNm rfl u6_in tyX6_ok nmX6 (by decide) mT_1_83 rfl rfl rfl rfl dX6_init_16 (c2.kq hq4) rfl rfl (fun R4 eR4 => ?_)
  have c4 := c2.row (n := 5) (kd := 42) (k := 2) (by decide) hq4 rfl (by simp) eR4
  generalize va_up K2 q4 (42) = K4 at c4 ⊢
  generalize va_up len2 q4 5 = len4 at c4 ⊢
  generalize z2 I2 q4 0 = I4 at c4 ⊢
  generalize z2 J2 q4 0 = J4
  refine r_aload_n hC dX6_init_19 0 rfl ?_
  refine r_new hC (ci := 7) (ty := tyX7) rfl u7_in tyX7_ok df7 mT_1_53 mT_1_54 mT_1_4 rfl (by decide) (by decide) dX6_init_20 (fun q5 hq5 => ?_)
  refine r_dup hC dX6_init_23 rfl ?_
  refine r_aload_n hC dX6_init_24 1 rfl ?_
  refine r_callI hC (As := [.ref a1]) (rest := [.ref q5, .ref a0]) (c_X7_init g (xL X) _ _ _ _ _ (c4.1.growO hq5 rfl) q5 (va_up_self _ _ _) (by funext j; exact z2_self _ _ _ _) (fun j => z2_self _ _ _ _) a1 (kup hq5 ((c4.2.2.2.2.2 a1 (by rw [ka1]; decide) (fun z => by rw [z, ka0] at ka1; omega)).1.trans ka1) (by decide))) mT_1_57 mT_1_4 mT_1_55 mT_1_56 rfl okX7_init ⟨by decide, by decide⟩ rfl rfl (Nat.le_of_ble_eq_true rfl) ⟨by decide, by decide⟩ dX6_init_25 (aV5 (F := fun st M => P g X 2 28 [(0, .ref a0), (1, .ref a1)] st _ _ M) fun M6 h6 => ?_)
  obtain ⟨K6, len6, I6, J6, R6⟩ := M6
  obtain ⟨c6, hk6, hqa6, hz6⟩ := c4.after hq5 h6
  show P g X 2 28 [(0, .ref a0), (1, .ref a1)] [.ref q5, .ref a0] _ _ (K6, len6, I6, J6, R6)
  refine r_putrF hC 0 (ci := 6) hNm rfl u6_in tyX6_ok nmX6 (by decide) mT_1_81 rfl rfl rfl rfl dX6_init_28 (c6.2.1) rfl rfl (fun R7 eR7 => ?_)
  have c7 := c6.old (n := len6 q5) (by decide) hk6 rfl (by decide) hqa6 (by simp) eR7
  refine r_seal (q := a0) (ci := 6) c7.2.1 rfl rfl ?_
  have md8 := c7.made (J := J6) (by decide) (by simp [refT]) (rz6) (fun z => absurd z (by decide)) (fun z => absurd z (by decide)) (fun z => absurd z (by decide))
  exact r_vret hC hQ hlk hr (by decide) (by decide) dX6_init_31 ⟨rfl, md8⟩
abbrev rmX1_init : Room := { frames := 2, cells := 18, slots := 160, locals := 40 }
set_option maxHeartbeats 4000000 in
set_option maxRecDepth 100000 in
theorem c_X1_init (g : GG) (l : Launch) (K len : Nat → Nat) (I : Nat → Nat → Int32) (J : Nat → Nat → Int64) (R : Nat → Nat → Option Nat) (hs : Sf K len I R) (a0 : Nat) (ka0 : K a0 = 21 + 1) (hz : I a0 = fun _ => 0) (hn : ∀ k, R a0 k = none) : Ct g l yX1_init cX1_init 2 none rmX1_init [.ref a0] (K, len, I, J, R) (pV5 (Made K len I R a0 1 (fun _ => 0))) := by
  refine Ct_intro (by decide +kernel) (Nat.le_of_ble_eq_true rfl) (fun X hC hL hKK hNm hr hlk hQ => ?_)
  subst hL
  have hC : Cx g X cX1_init "HillTap$Hill" 2 rmX1_init := hC
  show P g X 2 0 [(0, .ref a0)] [] 0 0 (K, len, I, J, R)
  have c0 : Con K len I R a0 1 (fun _ => 0) [] K len I R := Con.start hs ka0 hz hn
  refine r_aload_n hC dX1_init_0 0 rfl ?_
  refine r_objInit hC mT_1_110 mT_1_28 mT_1_29 dX1_init_1 (by decide) (by decide) ?_
  refine r_aload_n hC dX1_init_4 0 rfl ?_
  refine r_new hC (ci := 2) (ty := tyX2) rfl u2_in tyX2_ok df2 mT_1_111 mT_1_112 mT_1_6 rfl (by decide) (by decide) dX1_init_5 (fun q1 hq1 => ?_)
  refine r_dup hC dX1_init_8 rfl ?_
  refine r_callIN hC (As := []) (rest := [.ref q1, .ref a0]) (c_X2_init g (xL X) _ _ _ _ _ (c0.1.growO hq1 rfl) q1 (va_up_self _ _ _) (by funext j; exact z2_self _ _ _ _) (fun j => z2_self _ _ _ _)) mT_1_115 mT_1_6 nM_1 mT_1_114 rfl okX2_init ⟨by decide, by decide⟩ rfl rfl (Nat.le_of_ble_eq_true rfl) ⟨by decide, by decide⟩ dX1_init_9 (aV5 (F := fun st M => P g X 2 12 [(0, .ref a0)] st _ _ M) fun M2 h2 => ?_)
  obtain ⟨K2, len2, I2, J2, R2⟩ := M2
  obtain ⟨c2, hk2, hqa2, hz2⟩ := c0.after hq1 h2
  show P g X 2 12 [(0, .ref a0)] [.ref q1, .ref a0] _ _ (K2, len2, I2, J2, R2)
  refine r_putrF hC 0 (ci := 1) hNm rfl u1_in tyX1_ok nmX1 (by decide) mT_1_180 rfl rfl rfl rfl dX1_init_12 (c2.2.1) rfl rfl (fun R3 eR3 => ?_)
  have c3 := c2.old (n := len2 q1) (by decide) hk2 rfl (by decide) hqa2 (by simp) eR3
  refine r_aload_n hC dX1_init_15 0 rfl ?_
  refine r_iconst hC (v := (5)) dX1_init_16 (by decide) (by decide) (fun z4 ez4 tz4 => ?_)
  refine r_newarray hC (atype := .int) (ty := .int) (kd := 41) (t := 1) (N := 5) rfl mT_1_152 rfl rfl rfl (by decide) (fun _ h => h) (5, arE 1 (K2, len2, fun _ _ => 0, fun _ _ => 0, fun _ _ => none) 0) rfl (ha_1 5 _ _) (nlt_0 (by omega)) (cl_of (by omega)) (by decide) (by decide) (by decide) dX1_init_17 (fun q5 hq5 => ?_)
  refine r_putrF hC 2 (ci := 1) hNm rfl u1_in tyX1_ok nmX1 (by decide) mT_1_188 rfl rfl rfl rfl dX1_init_19 (c3.kq hq5) rfl rfl (fun R5 eR5 => ?_)
  have c5 := c3.row (n := 5) (kd := 41) (k := 2) (by decide) hq5 rfl (by simp) eR5
  generalize va_up K2 q5 (41) = K5 at c5 ⊢
  generalize va_up len2 q5 5 = len5 at c5 ⊢
  generalize z2 I2 q5 0 = I5 at c5 ⊢
  generalize z2 J2 q5 0 = J5
  refine r_aload_n hC dX1_init_22 0 rfl ?_
  refine r_iconst hC (v := (5)) dX1_init_23 (by decide) (by decide) (fun z6 ez6 tz6 => ?_)
  refine r_newarray hC (atype := .int) (ty := .int) (kd := 41) (t := 1) (N := 5) rfl mT_1_152 rfl rfl rfl (by decide) (fun _ h => h) (5, arE 1 (K5, len5, fun _ _ => 0, fun _ _ => 0, fun _ _ => none) 0) rfl (ha_1 5 _ _) (nlt_0 (by omega)) (cl_of (by omega)) (by decide) (by decide) (by decide) dX1_init_24 (fun q7 hq7 => ?_)
  refine r_putrF hC 3 (ci := 1) hNm rfl u1_in tyX1_ok nmX1 (by decide) mT_1_191 rfl rfl rfl rfl dX1_init_26 (c5.kq hq7) rfl rfl (fun R7 eR7 => ?_)
  have c7 := c5.row (n := 5) (kd := 41) (k := 3) (by decide) hq7 rfl (by simp) eR7
  generalize va_up K5 q7 (41) = K7 at c7 ⊢
  generalize va_up len5 q7 5 = len7 at c7 ⊢
  generalize z2 I5 q7 0 = I7 at c7 ⊢
  generalize z2 J5 q7 0 = J7
  refine r_aload_n hC dX1_init_29 0 rfl ?_
  refine r_bipush hC (v := (60)) dX1_init_30 (by decide) (by decide) (fun z8 ez8 tz8 => ?_)
  refine r_newarray hC (atype := .int) (ty := .int) (kd := 41) (t := 1) (N := 60) rfl mT_1_152 rfl rfl rfl (by decide) (fun _ h => h) (60, arE 1 (K7, len7, fun _ _ => 0, fun _ _ => 0, fun _ _ => none) 0) rfl (ha_1 60 _ _) (nlt_0 (by omega)) (cl_of (by omega)) (by decide) (by decide) (by decide) dX1_init_32 (fun q9 hq9 => ?_)
  refine r_putrF hC 5 (ci := 1) hNm rfl u1_in tyX1_ok nmX1 (by decide) mT_1_197 rfl rfl rfl rfl dX1_init_34 (c7.kq hq9) rfl rfl (fun R9 eR9 => ?_)
  have c9 := c7.row (n := 60) (kd := 41) (k := 5) (by decide) hq9 rfl (by simp) eR9
  generalize va_up K7 q9 (41) = K9 at c9 ⊢
  generalize va_up len7 q9 60 = len9 at c9 ⊢
  generalize z2 I7 q9 0 = I9 at c9 ⊢
  generalize z2 J7 q9 0 = J9
  refine r_aload_n hC dX1_init_37 0 rfl ?_
  refine r_bipush hC (v := (6)) dX1_init_38 (by decide) (by decide) (fun z10 ez10 tz10 => ?_)
  refine r_anewarray hC (kd := 35) (t := 5) (N := 6) mT_1_153 hC.2.2.2.2.2.2.2.1.2.2.2.2 rfl rfl rfl (by decide) (by decide) (nlt_0 (by omega)) (cl_of (by omega)) (by decide) (by decide) (by decide) dX1_init_40 (fun q11 hq11 => ?_)
  refine r_putrF hC 7 (ci := 1) hNm rfl u1_in tyX1_ok nmX1 (by decide) mT_1_203 rfl rfl rfl rfl dX1_init_43 (c9.kq hq11) rfl rfl (fun R11 eR11 => ?_)
  have hz0q11 := c9.fresh hq11
  have c11 := c9.row (n := 6) (kd := 35) (k := 7) (by decide) hq11 rfl (by simp) eR11
  generalize va_up K9 q11 (35) = K11 at c11 ⊢
  generalize va_up len9 q11 6 = len11 at c11 ⊢
  generalize z2 I9 q11 0 = I11 at c11 ⊢
  generalize z2 J9 q11 0 = J11
  refine r_aload_n hC dX1_init_46 0 rfl ?_
  refine r_iconst hC (v := (4)) dX1_init_47 (by decide) (by decide) (fun z12 ez12 tz12 => ?_)
  refine r_newarray hC (atype := .int) (ty := .int) (kd := 41) (t := 1) (N := 4) rfl mT_1_152 rfl rfl rfl (by decide) (fun _ h => h) (4, arE 1 (K11, len11, fun _ _ => 0, fun _ _ => 0, fun _ _ => none) 0) rfl (ha_1 4 _ _) (nlt_0 (by omega)) (cl_of (by omega)) (by decide) (by decide) (by decide) dX1_init_48 (fun q13 hq13 => ?_)
  refine r_putrF hC 9 (ci := 1) hNm rfl u1_in tyX1_ok nmX1 (by decide) mT_1_209 rfl rfl rfl rfl dX1_init_50 (c11.kq hq13) rfl rfl (fun R13 eR13 => ?_)
  have c13 := c11.row (n := 4) (kd := 41) (k := 9) (by decide) hq13 rfl (by simp) eR13
  generalize va_up K11 q13 (41) = K13 at c13 ⊢
  generalize va_up len11 q13 4 = len13 at c13 ⊢
  generalize z2 I11 q13 0 = I13 at c13 ⊢
  generalize z2 J11 q13 0 = J13
  refine r_aload_n hC dX1_init_53 0 rfl ?_
  refine r_iconst hC (v := (4)) dX1_init_54 (by decide) (by decide) (fun z14 ez14 tz14 => ?_)
  refine r_newarray hC (atype := .int) (ty := .int) (kd := 41) (t := 1) (N := 4) rfl mT_1_152 rfl rfl rfl (by decide) (fun _ h => h) (4, arE 1 (K13, len13, fun _ _ => 0, fun _ _ => 0, fun _ _ => none) 0) rfl (ha_1 4 _ _) (nlt_0 (by omega)) (cl_of (by omega)) (by decide) (by decide) (by decide) dX1_init_55 (fun q15 hq15 => ?_)
  refine r_putrF hC 10 (ci := 1) hNm rfl u1_in tyX1_ok nmX1 (by decide) mT_1_212 rfl rfl rfl rfl dX1_init_57 (c13.kq hq15) rfl rfl (fun R15 eR15 => ?_)
  have c15 := c13.row (n := 4) (kd := 41) (k := 10) (by decide) hq15 rfl (by simp) eR15
  generalize va_up K13 q15 (41) = K15 at c15 ⊢
  generalize va_up len13 q15 4 = len15 at c15 ⊢
  generalize z2 I13 q15 0 = I15 at c15 ⊢
  generalize z2 J13 q15 0 = J15
  refine r_aload_n hC dX1_init_60 0 rfl ?_
  refine r_iconst hC (v := (4)) dX1_init_61 (by decide) (by decide) (fun z16 ez16 tz16 => ?_)
  refine r_newarray hC (atype := .int) (ty := .int) (kd := 41) (t := 1) (N := 4) rfl mT_1_152 rfl rfl rfl (by decide) (fun _ h => h) (4, arE 1 (K15, len15, fun _ _ => 0, fun _ _ => 0, fun _ _ => none) 0) rfl (ha_1 4 _ _) (nlt_0 (by omega)) (cl_of (by omega)) (by decide) (by decide) (by decide) dX1_init_62 (fun q17 hq17 => ?_)
  refine r_putrF hC 11 (ci := 1) hNm rfl u1_in tyX1_ok nmX1 (by decide) mT_1_215 rfl rfl rfl rfl dX1_init_64 (c15.kq hq17) rfl rfl (fun R17 eR17 => ?_)
  have c17 := c15.row (n := 4) (kd := 41) (k := 11) (by decide) hq17 rfl (by simp) eR17
  generalize va_up K15 q17 (41) = K17 at c17 ⊢
  generalize va_up len15 q17 4 = len17 at c17 ⊢
  generalize z2 I15 q17 0 = I17 at c17 ⊢
  generalize z2 J15 q17 0 = J17
  refine r_aload_n hC dX1_init_67 0 rfl ?_
  refine r_iconst hC (v := (4)) dX1_init_68 (by decide) (by decide) (fun z18 ez18 tz18 => ?_)
  refine r_newarray hC (atype := .int) (ty := .int) (kd := 41) (t := 1) (N := 4) rfl mT_1_152 rfl rfl rfl (by decide) (fun _ h => h) (4, arE 1 (K17, len17, fun _ _ => 0, fun _ _ => 0, fun _ _ => none) 0) rfl (ha_1 4 _ _) (nlt_0 (by omega)) (cl_of (by omega)) (by decide) (by decide) (by decide) dX1_init_69 (fun q19 hq19 => ?_)
  refine r_putrF hC 13 (ci := 1) hNm rfl u1_in tyX1_ok nmX1 (by decide) mT_1_221 rfl rfl rfl rfl dX1_init_71 (c17.kq hq19) rfl rfl (fun R19 eR19 => ?_)
  have c19 := c17.row (n := 4) (kd := 41) (k := 13) (by decide) hq19 rfl (by simp) eR19
  generalize va_up K17 q19 (41) = K19 at c19 ⊢
  generalize va_up len17 q19 4 = len19 at c19 ⊢
  generalize z2 I17 q19 0 = I19 at c19 ⊢
  generalize z2 J17 q19 0 = J19
  refine r_aload_n hC dX1_init_74 0 rfl ?_
  refine r_iconst hC (v := (4)) dX1_init_75 (by decide) (by decide) (fun z20 ez20 tz20 => ?_)
  refine r_newarray hC (atype := .int) (ty := .int) (kd := 41) (t := 1) (N := 4) rfl mT_1_152 rfl rfl rfl (by decide) (fun _ h => h) (4, arE 1 (K19, len19, fun _ _ => 0, fun _ _ => 0, fun _ _ => none) 0) rfl (ha_1 4 _ _) (nlt_0 (by omega)) (cl_of (by omega)) (by decide) (by decide) (by decide) dX1_init_76 (fun q21 hq21 => ?_)
  refine r_putrF hC 14 (ci := 1) hNm rfl u1_in tyX1_ok nmX1 (by decide) mT_1_224 rfl rfl rfl rfl dX1_init_78 (c19.kq hq21) rfl rfl (fun R21 eR21 => ?_)
  have c21 := c19.row (n := 4) (kd := 41) (k := 14) (by decide) hq21 rfl (by simp) eR21
  generalize va_up K19 q21 (41) = K21 at c21 ⊢
  generalize va_up len19 q21 4 = len21 at c21 ⊢
  generalize z2 I19 q21 0 = I21 at c21 ⊢
  generalize z2 J19 q21 0 = J21
  refine r_iconst hC (v := (0)) dX1_init_81 (by decide) (by decide) (fun z22 ez22 tz22 => ?_)
  refine r_istore_n hC (lv' := [(1, .int z22), (0, .ref a0)]) dX1_init_82 (by decide) rfl ?_
  have fl23 : Fil q11 0 5 K21 R21 := fun i hi => absurd hi (by omega)
  refine r_iload_n hC dX1_init_83 0 rfl ?_
  refine r_bipush hC (v := (6)) dX1_init_84 (by decide) (by decide) (fun z24 ez24 tz24 => ?_)
  refine r_icmp_ge hC (tgt := 108) dX1_init_86 (by decide) (fun cc25 => absurd cc25 (by omega)) (fun cc25 => ?_)
  refine r_aload_n hC dX1_init_89 1 rfl ?_
  have ha26 := c21.2.2.2.1 (7, q11, 35, 6) (by simp)
  refine r_getr hC 7 (ci := 1) rfl u1_in (by decide) mT_1_203 dX1_init_90 c21.2.1 rfl rfl ha26.1 ?_
  refine r_iload_n hC dX1_init_93 0 rfl ?_
  refine r_new hC (ci := 4) (ty := tyX4) rfl u4_in tyX4_ok df4 mT_1_153 mT_1_155 mT_1_7 rfl (by decide) (by decide) dX1_init_94 (fun q27 hq27 => ?_)
  refine r_dup hC dX1_init_97 rfl ?_
  refine r_callIN hC (As := []) (rest := [.ref q27, .int z22, .ref q11]) (c_X4_init g (xL X) _ _ _ _ _ (c21.1.growO hq27 rfl) q27 (va_up_self _ _ _) (by funext j; exact z2_self _ _ _ _) (fun j => z2_self _ _ _ _)) mT_1_158 mT_1_7 nM_2 mT_1_157 rfl okX4_init ⟨by decide, by decide⟩ rfl rfl (Nat.le_of_ble_eq_true rfl) ⟨by decide, by decide⟩ dX1_init_98 (aV5 (F := fun st M => P g X 2 101 [(1, .int z22), (0, .ref a0)] st _ _ M) fun M28 h28 => ?_)
  obtain ⟨K28, len28, I28, J28, R28⟩ := M28
  obtain ⟨c28, hk28, hqa28, hz28⟩ := c21.after hq27 h28
  show P g X 2 101 [(1, .int z22), (0, .ref a0)] [.ref q27, .int z22, .ref q11] _ _ (K28, len28, I28, J28, R28)
  obtain ⟨fl28, ka28, la28⟩ := fl23.after (by rw [ha26.2.1]; exact Nat.succ_ne_zero _) hq27 h28
  have kb28 : K28 q11 = 35 := ka28.trans ha26.2.1
  have lb28 : len28 q11 = 6 := la28.trans ha26.2.2.2
  refine r_aastore hC (ci := 4) (t := 5) (by rw [kb28]; decide) (by rw [kb28]; rfl) (by rw [kb28]; rfl) (by decide) (by rw [hk28]; rfl) rfl (by omega) (by rw [lb28]; omega) dX1_init_101 (fun R29 eR29 => ?_)
  rw [cl_of (z := z22) (n := 0) (by omega)] at eR29
  obtain ⟨c29, fl29⟩ := c28.elem (b := q11) kb28 rfl ha26.2.2.1.1 hz0q11 fl28 hk28 (by decide) eR29
  obtain ⟨w30, ew30⟩ : ∃ z : Int32, z = z22 + Int32.ofInt 1 := ⟨_, rfl⟩
  refine r_iinc hC (j := 0) (v := w30) (lv' := [(1, .int w30), (0, .ref a0)]) dX1_init_102 rfl (by rw [ew30]) (by decide) rfl ?_
  have tw30 : w30.toInt = 1 := by rw [ew30, ti_add (b := Int32.ofInt 1) (by show _ ≤ _ + (1 : Int); omega) (by show _ + (1 : Int) ≤ _; omega)]; show _ + (1 : Int) = _; omega
  refine r_goto hC (tgt := 83) dX1_init_105 (by decide) ?_
  refine r_iload_n hC dX1_init_83 0 rfl ?_
  refine r_bipush hC (v := (6)) dX1_init_84 (by decide) (by decide) (fun z31 ez31 tz31 => ?_)
  refine r_icmp_ge hC (tgt := 108) dX1_init_86 (by decide) (fun cc32 => absurd cc32 (by omega)) (fun cc32 => ?_)
  refine r_aload_n hC dX1_init_89 1 rfl ?_
  have ha33 := c29.2.2.2.1 (7, q11, 35, 6) (by simp)
  refine r_getr hC 7 (ci := 1) rfl u1_in (by decide) mT_1_203 dX1_init_90 c29.2.1 rfl rfl ha33.1 ?_
  refine r_iload_n hC dX1_init_93 0 rfl ?_
  refine r_new hC (ci := 4) (ty := tyX4) rfl u4_in tyX4_ok df4 mT_1_153 mT_1_155 mT_1_7 rfl (by decide) (by decide) dX1_init_94 (fun q34 hq34 => ?_)
  refine r_dup hC dX1_init_97 rfl ?_
  refine r_callIN hC (As := []) (rest := [.ref q34, .int w30, .ref q11]) (c_X4_init g (xL X) _ _ _ _ _ (c29.1.growO hq34 rfl) q34 (va_up_self _ _ _) (by funext j; exact z2_self _ _ _ _) (fun j => z2_self _ _ _ _)) mT_1_158 mT_1_7 nM_2 mT_1_157 rfl okX4_init ⟨by decide, by decide⟩ rfl rfl (Nat.le_of_ble_eq_true rfl) ⟨by decide, by decide⟩ dX1_init_98 (aV5 (F := fun st M => P g X 2 101 [(1, .int w30), (0, .ref a0)] st _ _ M) fun M35 h35 => ?_)
  obtain ⟨K35, len35, I35, J35, R35⟩ := M35
  obtain ⟨c35, hk35, hqa35, hz35⟩ := c29.after hq34 h35
  show P g X 2 101 [(1, .int w30), (0, .ref a0)] [.ref q34, .int w30, .ref q11] _ _ (K35, len35, I35, J35, R35)
  obtain ⟨fl35, ka35, la35⟩ := fl29.after (by rw [ha33.2.1]; exact Nat.succ_ne_zero _) hq34 h35
  have kb35 : K35 q11 = 35 := ka35.trans ha33.2.1
  have lb35 : len35 q11 = 6 := la35.trans ha33.2.2.2
  refine r_aastore hC (ci := 4) (t := 5) (by rw [kb35]; decide) (by rw [kb35]; rfl) (by rw [kb35]; rfl) (by decide) (by rw [hk35]; rfl) rfl (by omega) (by rw [lb35]; omega) dX1_init_101 (fun R36 eR36 => ?_)
  rw [cl_of (z := w30) (n := 1) (by omega)] at eR36
  obtain ⟨c36, fl36⟩ := c35.elem (b := q11) kb35 rfl ha33.2.2.1.1 hz0q11 fl35 hk35 (by decide) eR36
  obtain ⟨w37, ew37⟩ : ∃ z : Int32, z = w30 + Int32.ofInt 1 := ⟨_, rfl⟩
  refine r_iinc hC (j := 0) (v := w37) (lv' := [(1, .int w37), (0, .ref a0)]) dX1_init_102 rfl (by rw [ew37]) (by decide) rfl ?_
  have tw37 : w37.toInt = 2 := by rw [ew37, ti_add (b := Int32.ofInt 1) (by show _ ≤ _ + (1 : Int); omega) (by show _ + (1 : Int) ≤ _; omega)]; show _ + (1 : Int) = _; omega
  refine r_goto hC (tgt := 83) dX1_init_105 (by decide) ?_
  refine r_iload_n hC dX1_init_83 0 rfl ?_
  refine r_bipush hC (v := (6)) dX1_init_84 (by decide) (by decide) (fun z38 ez38 tz38 => ?_)
  refine r_icmp_ge hC (tgt := 108) dX1_init_86 (by decide) (fun cc39 => absurd cc39 (by omega)) (fun cc39 => ?_)
  refine r_aload_n hC dX1_init_89 1 rfl ?_
  have ha40 := c36.2.2.2.1 (7, q11, 35, 6) (by simp)
  refine r_getr hC 7 (ci := 1) rfl u1_in (by decide) mT_1_203 dX1_init_90 c36.2.1 rfl rfl ha40.1 ?_
  refine r_iload_n hC dX1_init_93 0 rfl ?_
  refine r_new hC (ci := 4) (ty := tyX4) rfl u4_in tyX4_ok df4 mT_1_153 mT_1_155 mT_1_7 rfl (by decide) (by decide) dX1_init_94 (fun q41 hq41 => ?_)
  refine r_dup hC dX1_init_97 rfl ?_
  refine r_callIN hC (As := []) (rest := [.ref q41, .int w37, .ref q11]) (c_X4_init g (xL X) _ _ _ _ _ (c36.1.growO hq41 rfl) q41 (va_up_self _ _ _) (by funext j; exact z2_self _ _ _ _) (fun j => z2_self _ _ _ _)) mT_1_158 mT_1_7 nM_2 mT_1_157 rfl okX4_init ⟨by decide, by decide⟩ rfl rfl (Nat.le_of_ble_eq_true rfl) ⟨by decide, by decide⟩ dX1_init_98 (aV5 (F := fun st M => P g X 2 101 [(1, .int w37), (0, .ref a0)] st _ _ M) fun M42 h42 => ?_)
  obtain ⟨K42, len42, I42, J42, R42⟩ := M42
  obtain ⟨c42, hk42, hqa42, hz42⟩ := c36.after hq41 h42
  show P g X 2 101 [(1, .int w37), (0, .ref a0)] [.ref q41, .int w37, .ref q11] _ _ (K42, len42, I42, J42, R42)
  obtain ⟨fl42, ka42, la42⟩ := fl36.after (by rw [ha40.2.1]; exact Nat.succ_ne_zero _) hq41 h42
  have kb42 : K42 q11 = 35 := ka42.trans ha40.2.1
  have lb42 : len42 q11 = 6 := la42.trans ha40.2.2.2
  refine r_aastore hC (ci := 4) (t := 5) (by rw [kb42]; decide) (by rw [kb42]; rfl) (by rw [kb42]; rfl) (by decide) (by rw [hk42]; rfl) rfl (by omega) (by rw [lb42]; omega) dX1_init_101 (fun R43 eR43 => ?_)
  rw [cl_of (z := w37) (n := 2) (by omega)] at eR43
  obtain ⟨c43, fl43⟩ := c42.elem (b := q11) kb42 rfl ha40.2.2.1.1 hz0q11 fl42 hk42 (by decide) eR43
  obtain ⟨w44, ew44⟩ : ∃ z : Int32, z = w37 + Int32.ofInt 1 := ⟨_, rfl⟩
  refine r_iinc hC (j := 0) (v := w44) (lv' := [(1, .int w44), (0, .ref a0)]) dX1_init_102 rfl (by rw [ew44]) (by decide) rfl ?_
  have tw44 : w44.toInt = 3 := by rw [ew44, ti_add (b := Int32.ofInt 1) (by show _ ≤ _ + (1 : Int); omega) (by show _ + (1 : Int) ≤ _; omega)]; show _ + (1 : Int) = _; omega
  refine r_goto hC (tgt := 83) dX1_init_105 (by decide) ?_
  refine r_iload_n hC dX1_init_83 0 rfl ?_
  refine r_bipush hC (v := (6)) dX1_init_84 (by decide) (by decide) (fun z45 ez45 tz45 => ?_)
  refine r_icmp_ge hC (tgt := 108) dX1_init_86 (by decide) (fun cc46 => absurd cc46 (by omega)) (fun cc46 => ?_)
  refine r_aload_n hC dX1_init_89 1 rfl ?_
  have ha47 := c43.2.2.2.1 (7, q11, 35, 6) (by simp)
  refine r_getr hC 7 (ci := 1) rfl u1_in (by decide) mT_1_203 dX1_init_90 c43.2.1 rfl rfl ha47.1 ?_
  refine r_iload_n hC dX1_init_93 0 rfl ?_
  refine r_new hC (ci := 4) (ty := tyX4) rfl u4_in tyX4_ok df4 mT_1_153 mT_1_155 mT_1_7 rfl (by decide) (by decide) dX1_init_94 (fun q48 hq48 => ?_)
  refine r_dup hC dX1_init_97 rfl ?_
  refine r_callIN hC (As := []) (rest := [.ref q48, .int w44, .ref q11]) (c_X4_init g (xL X) _ _ _ _ _ (c43.1.growO hq48 rfl) q48 (va_up_self _ _ _) (by funext j; exact z2_self _ _ _ _) (fun j => z2_self _ _ _ _)) mT_1_158 mT_1_7 nM_2 mT_1_157 rfl okX4_init ⟨by decide, by decide⟩ rfl rfl (Nat.le_of_ble_eq_true rfl) ⟨by decide, by decide⟩ dX1_init_98 (aV5 (F := fun st M => P g X 2 101 [(1, .int w44), (0, .ref a0)] st _ _ M) fun M49 h49 => ?_)
  obtain ⟨K49, len49, I49, J49, R49⟩ := M49
  obtain ⟨c49, hk49, hqa49, hz49⟩ := c43.after hq48 h49
  show P g X 2 101 [(1, .int w44), (0, .ref a0)] [.ref q48, .int w44, .ref q11] _ _ (K49, len49, I49, J49, R49)
  obtain ⟨fl49, ka49, la49⟩ := fl43.after (by rw [ha47.2.1]; exact Nat.succ_ne_zero _) hq48 h49
  have kb49 : K49 q11 = 35 := ka49.trans ha47.2.1
  have lb49 : len49 q11 = 6 := la49.trans ha47.2.2.2
  refine r_aastore hC (ci := 4) (t := 5) (by rw [kb49]; decide) (by rw [kb49]; rfl) (by rw [kb49]; rfl) (by decide) (by rw [hk49]; rfl) rfl (by omega) (by rw [lb49]; omega) dX1_init_101 (fun R50 eR50 => ?_)
  rw [cl_of (z := w44) (n := 3) (by omega)] at eR50
  obtain ⟨c50, fl50⟩ := c49.elem (b := q11) kb49 rfl ha47.2.2.1.1 hz0q11 fl49 hk49 (by decide) eR50
  obtain ⟨w51, ew51⟩ : ∃ z : Int32, z = w44 + Int32.ofInt 1 := ⟨_, rfl⟩
  refine r_iinc hC (j := 0) (v := w51) (lv' := [(1, .int w51), (0, .ref a0)]) dX1_init_102 rfl (by rw [ew51]) (by decide) rfl ?_
  have tw51 : w51.toInt = 4 := by rw [ew51, ti_add (b := Int32.ofInt 1) (by show _ ≤ _ + (1 : Int); omega) (by show _ + (1 : Int) ≤ _; omega)]; show _ + (1 : Int) = _; omega
  refine r_goto hC (tgt := 83) dX1_init_105 (by decide) ?_
  refine r_iload_n hC dX1_init_83 0 rfl ?_
  refine r_bipush hC (v := (6)) dX1_init_84 (by decide) (by decide) (fun z52 ez52 tz52 => ?_)
  refine r_icmp_ge hC (tgt := 108) dX1_init_86 (by decide) (fun cc53 => absurd cc53 (by omega)) (fun cc53 => ?_)
  refine r_aload_n hC dX1_init_89 1 rfl ?_
  have ha54 := c50.2.2.2.1 (7, q11, 35, 6) (by simp)
  refine r_getr hC 7 (ci := 1) rfl u1_in (by decide) mT_1_203 dX1_init_90 c50.2.1 rfl rfl ha54.1 ?_
  refine r_iload_n hC dX1_init_93 0 rfl ?_
  refine r_new hC (ci := 4) (ty := tyX4) rfl u4_in tyX4_ok df4 mT_1_153 mT_1_155 mT_1_7 rfl (by decide) (by decide) dX1_init_94 (fun q55 hq55 => ?_)
  refine r_dup hC dX1_init_97 rfl ?_
  refine r_callIN hC (As := []) (rest := [.ref q55, .int w51, .ref q11]) (c_X4_init g (xL X) _ _ _ _ _ (c50.1.growO hq55 rfl) q55 (va_up_self _ _ _) (by funext j; exact z2_self _ _ _ _) (fun j => z2_self _ _ _ _)) mT_1_158 mT_1_7 nM_2 mT_1_157 rfl okX4_init ⟨by decide, by decide⟩ rfl rfl (Nat.le_of_ble_eq_true rfl) ⟨by decide, by decide⟩ dX1_init_98 (aV5 (F := fun st M => P g X 2 101 [(1, .int w51), (0, .ref a0)] st _ _ M) fun M56 h56 => ?_)
  obtain ⟨K56, len56, I56, J56, R56⟩ := M56
  obtain ⟨c56, hk56, hqa56, hz56⟩ := c50.after hq55 h56
  show P g X 2 101 [(1, .int w51), (0, .ref a0)] [.ref q55, .int w51, .ref q11] _ _ (K56, len56, I56, J56, R56)
  obtain ⟨fl56, ka56, la56⟩ := fl50.after (by rw [ha54.2.1]; exact Nat.succ_ne_zero _) hq55 h56
  have kb56 : K56 q11 = 35 := ka56.trans ha54.2.1
  have lb56 : len56 q11 = 6 := la56.trans ha54.2.2.2
  refine r_aastore hC (ci := 4) (t := 5) (by rw [kb56]; decide) (by rw [kb56]; rfl) (by rw [kb56]; rfl) (by decide) (by rw [hk56]; rfl) rfl (by omega) (by rw [lb56]; omega) dX1_init_101 (fun R57 eR57 => ?_)
  rw [cl_of (z := w51) (n := 4) (by omega)] at eR57
  obtain ⟨c57, fl57⟩ := c56.elem (b := q11) kb56 rfl ha54.2.2.1.1 hz0q11 fl56 hk56 (by decide) eR57
  obtain ⟨w58, ew58⟩ : ∃ z : Int32, z = w51 + Int32.ofInt 1 := ⟨_, rfl⟩
  refine r_iinc hC (j := 0) (v := w58) (lv' := [(1, .int w58), (0, .ref a0)]) dX1_init_102 rfl (by rw [ew58]) (by decide) rfl ?_
  have tw58 : w58.toInt = 5 := by rw [ew58, ti_add (b := Int32.ofInt 1) (by show _ ≤ _ + (1 : Int); omega) (by show _ + (1 : Int) ≤ _; omega)]; show _ + (1 : Int) = _; omega
  refine r_goto hC (tgt := 83) dX1_init_105 (by decide) ?_
  refine r_iload_n hC dX1_init_83 0 rfl ?_
  refine r_bipush hC (v := (6)) dX1_init_84 (by decide) (by decide) (fun z59 ez59 tz59 => ?_)
  refine r_icmp_ge hC (tgt := 108) dX1_init_86 (by decide) (fun cc60 => absurd cc60 (by omega)) (fun cc60 => ?_)
  refine r_aload_n hC dX1_init_89 1 rfl ?_
  have ha61 := c57.2.2.2.1 (7, q11, 35, 6) (by simp)
  refine r_getr hC 7 (ci := 1) rfl u1_in (by decide) mT_1_203 dX1_init_90 c57.2.1 rfl rfl ha61.1 ?_
  refine r_iload_n hC dX1_init_93 0 rfl ?_
  refine r_new hC (ci := 4) (ty := tyX4) rfl u4_in tyX4_ok df4 mT_1_153 mT_1_155 mT_1_7 rfl (by decide) (by decide) dX1_init_94 (fun q62 hq62 => ?_)
  refine r_dup hC dX1_init_97 rfl ?_
  refine r_callIN hC (As := []) (rest := [.ref q62, .int w58, .ref q11]) (c_X4_init g (xL X) _ _ _ _ _ (c57.1.growO hq62 rfl) q62 (va_up_self _ _ _) (by funext j; exact z2_self _ _ _ _) (fun j => z2_self _ _ _ _)) mT_1_158 mT_1_7 nM_2 mT_1_157 rfl okX4_init ⟨by decide, by decide⟩ rfl rfl (Nat.le_of_ble_eq_true rfl) ⟨by decide, by decide⟩ dX1_init_98 (aV5 (F := fun st M => P g X 2 101 [(1, .int w58), (0, .ref a0)] st _ _ M) fun M63 h63 => ?_)
  obtain ⟨K63, len63, I63, J63, R63⟩ := M63
  obtain ⟨c63, hk63, hqa63, hz63⟩ := c57.after hq62 h63
  show P g X 2 101 [(1, .int w58), (0, .ref a0)] [.ref q62, .int w58, .ref q11] _ _ (K63, len63, I63, J63, R63)
  obtain ⟨fl63, ka63, la63⟩ := fl57.after (by rw [ha61.2.1]; exact Nat.succ_ne_zero _) hq62 h63
  have kb63 : K63 q11 = 35 := ka63.trans ha61.2.1
  have lb63 : len63 q11 = 6 := la63.trans ha61.2.2.2
  refine r_aastore hC (ci := 4) (t := 5) (by rw [kb63]; decide) (by rw [kb63]; rfl) (by rw [kb63]; rfl) (by decide) (by rw [hk63]; rfl) rfl (by omega) (by rw [lb63]; omega) dX1_init_101 (fun R64 eR64 => ?_)
  rw [cl_of (z := w58) (n := 5) (by omega)] at eR64
  obtain ⟨c64, fl64⟩ := c63.elem (b := q11) kb63 rfl ha61.2.2.1.1 hz0q11 fl63 hk63 (by decide) eR64
  obtain ⟨w65, ew65⟩ : ∃ z : Int32, z = w58 + Int32.ofInt 1 := ⟨_, rfl⟩
  refine r_iinc hC (j := 0) (v := w65) (lv' := [(1, .int w65), (0, .ref a0)]) dX1_init_102 rfl (by rw [ew65]) (by decide) rfl ?_
  have tw65 : w65.toInt = 6 := by rw [ew65, ti_add (b := Int32.ofInt 1) (by show _ ≤ _ + (1 : Int); omega) (by show _ + (1 : Int) ≤ _; omega)]; show _ + (1 : Int) = _; omega
  refine r_goto hC (tgt := 83) dX1_init_105 (by decide) ?_
  refine r_iload_n hC dX1_init_83 0 rfl ?_
  refine r_bipush hC (v := (6)) dX1_init_84 (by decide) (by decide) (fun z66 ez66 tz66 => ?_)
  refine r_icmp_ge hC (tgt := 108) dX1_init_86 (by decide) (fun cc67 => ?_) (fun cc67 => absurd cc67 (by omega))
  refine r_sealA (q := q11) (t := 5) (by decide) (c64.2.2.2.1 (7, q11, 35, 6) (by simp)).2.1 ?_
  have c69 := c64.perm (F' := [(7, q11, 35, 6), (14, q21, 41, 4), (13, q19, 41, 4), (11, q17, 41, 4), (10, q15, 41, 4), (9, q13, 41, 4), (5, q9, 41, 60), (3, q7, 41, 5), (2, q5, 41, 5), (0, q1, 3, len2 q1)]) (by simp) (by simp)
  have c68 := c69.full (n := 5) (by decide) fl64 hz0q11 (by simp)
  generalize va_up K63 q11 45 = K68 at c68 ⊢
  refine r_seal (q := a0) (ci := 1) c68.2.1 rfl rfl ?_
  have md70 := c68.made (J := J63) (by decide) (by simp [refT]) (rz1) (fun z => absurd z (by decide)) (fun z => absurd z (by decide)) (fun z => absurd z (by decide))
  exact r_vret hC hQ hlk hr (by decide) (by decide) dX1_init_108 ⟨rfl, md70⟩
abbrev rmX9_init : Room := { frames := 1, cells := 17, slots := 203, locals := 20 }
set_option maxHeartbeats 4000000 in
set_option maxRecDepth 100000 in
theorem c_X9_init (g : GG) (l : Launch) (K len : Nat → Nat) (I : Nat → Nat → Int32) (J : Nat → Nat → Int64) (R : Nat → Nat → Option Nat) (hs : Sf K len I R) (a0 : Nat) (ka0 : K a0 = 21 + 9) (hz : I a0 = fun _ => 0) (hn : ∀ k, R a0 k = none) : Ct g l yX9_init cX9_init 1 none rmX9_init [.ref a0] (K, len, I, J, R) (pV5 (Made K len I R a0 9 (va_up (fun _ => 0) 0 (-1)))) := by
  refine Ct_intro (by decide +kernel) (Nat.le_of_ble_eq_true rfl) (fun X hC hL hKK hNm hr hlk hQ => ?_)
  subst hL
  have hC : Cx g X cX9_init "HillTapModel$Hill" 1 rmX9_init := hC
  show P g X 1 0 [(0, .ref a0)] [] 0 0 (K, len, I, J, R)
  have c0 : Con K len I R a0 9 (fun _ => 0) [] K len I R := Con.start hs ka0 hz hn
  refine r_aload_n hC dX9_init_0 0 rfl ?_
  refine r_objInit hC mT_5_91 mT_1_28 mT_1_29 dX9_init_1 (by decide) (by decide) ?_
  refine r_aload_n hC dX9_init_4 0 rfl ?_
  refine r_iconst hC (v := (-1)) dX9_init_5 (by decide) (by decide) (fun z1 ez1 tz1 => ?_)
  refine r_puti hC 0 (ci := 9) rfl u9_in tyX9_ok nmX9 (by decide) mT_5_92 rfl rfl rfl dX9_init_6 c0.2.1 rfl rfl (fun I2 eI2 => ?_)
  rw [ez1] at eI2
  have c2 := c0.num (by decide) eI2
  refine r_aload_n hC dX9_init_9 0 rfl ?_
  refine r_iconst hC (v := (5)) dX9_init_10 (by decide) (by decide) (fun z3 ez3 tz3 => ?_)
  refine r_newarray hC (atype := .int) (ty := .int) (kd := 41) (t := 1) (N := 5) rfl mT_1_152 rfl rfl rfl (by decide) (fun _ h => h) (5, arE 1 (K, len, fun _ _ => 0, fun _ _ => 0, fun _ _ => none) 0) rfl (ha_1 5 _ _) (nlt_0 (by omega)) (cl_of (by omega)) (by decide) (by decide) (by decide) dX9_init_11 (fun q4 hq4 => ?_)
  refine r_putrF hC 11 (ci := 9) hNm rfl u9_in tyX9_ok nmX9 (by decide) mT_5_105 rfl rfl rfl rfl dX9_init_13 (c2.kq hq4) rfl rfl (fun R4 eR4 => ?_)
  have c4 := c2.row (n := 5) (kd := 41) (k := 11) (by decide) hq4 rfl (by simp) eR4
  generalize va_up K q4 (41) = K4 at c4 ⊢
  generalize va_up len q4 5 = len4 at c4 ⊢
  generalize z2 I2 q4 0 = I4 at c4 ⊢
  generalize z2 J q4 0 = J4
  refine r_aload_n hC dX9_init_16 0 rfl ?_
  refine r_iconst hC (v := (5)) dX9_init_17 (by decide) (by decide) (fun z5 ez5 tz5 => ?_)
  refine r_newarray hC (atype := .int) (ty := .int) (kd := 41) (t := 1) (N := 5) rfl mT_1_152 rfl rfl rfl (by decide) (fun _ h => h) (5, arE 1 (K4, len4, fun _ _ => 0, fun _ _ => 0, fun _ _ => none) 0) rfl (ha_1 5 _ _) (nlt_0 (by omega)) (cl_of (by omega)) (by decide) (by decide) (by decide) dX9_init_18 (fun q6 hq6 => ?_)
  refine r_putrF hC 12 (ci := 9) hNm rfl u9_in tyX9_ok nmX9 (by decide) mT_5_107 rfl rfl rfl rfl dX9_init_20 (c4.kq hq6) rfl rfl (fun R6 eR6 => ?_)
  have c6 := c4.row (n := 5) (kd := 41) (k := 12) (by decide) hq6 rfl (by simp) eR6
  generalize va_up K4 q6 (41) = K6 at c6 ⊢
  generalize va_up len4 q6 5 = len6 at c6 ⊢
  generalize z2 I4 q6 0 = I6 at c6 ⊢
  generalize z2 J4 q6 0 = J6
  refine r_aload_n hC dX9_init_23 0 rfl ?_
  refine r_bipush hC (v := (16)) dX9_init_24 (by decide) (by decide) (fun z7 ez7 tz7 => ?_)
  refine r_newarray hC (atype := .int) (ty := .int) (kd := 41) (t := 1) (N := 16) rfl mT_1_152 rfl rfl rfl (by decide) (fun _ h => h) (16, arE 1 (K6, len6, fun _ _ => 0, fun _ _ => 0, fun _ _ => none) 0) rfl (ha_1 16 _ _) (nlt_0 (by omega)) (cl_of (by omega)) (by decide) (by decide) (by decide) dX9_init_26 (fun q8 hq8 => ?_)
  refine r_putrF hC 13 (ci := 9) hNm rfl u9_in tyX9_ok nmX9 (by decide) mT_5_109 rfl rfl rfl rfl dX9_init_28 (c6.kq hq8) rfl rfl (fun R8 eR8 => ?_)
  have c8 := c6.row (n := 16) (kd := 41) (k := 13) (by decide) hq8 rfl (by simp) eR8
  generalize va_up K6 q8 (41) = K8 at c8 ⊢
  generalize va_up len6 q8 16 = len8 at c8 ⊢
  generalize z2 I6 q8 0 = I8 at c8 ⊢
  generalize z2 J6 q8 0 = J8
  refine r_aload_n hC dX9_init_31 0 rfl ?_
  refine r_bipush hC (v := (16)) dX9_init_32 (by decide) (by decide) (fun z9 ez9 tz9 => ?_)
  refine r_newarray hC (atype := .int) (ty := .int) (kd := 41) (t := 1) (N := 16) rfl mT_1_152 rfl rfl rfl (by decide) (fun _ h => h) (16, arE 1 (K8, len8, fun _ _ => 0, fun _ _ => 0, fun _ _ => none) 0) rfl (ha_1 16 _ _) (nlt_0 (by omega)) (cl_of (by omega)) (by decide) (by decide) (by decide) dX9_init_34 (fun q10 hq10 => ?_)
  refine r_putrF hC 14 (ci := 9) hNm rfl u9_in tyX9_ok nmX9 (by decide) mT_5_111 rfl rfl rfl rfl dX9_init_36 (c8.kq hq10) rfl rfl (fun R10 eR10 => ?_)
  have c10 := c8.row (n := 16) (kd := 41) (k := 14) (by decide) hq10 rfl (by simp) eR10
  generalize va_up K8 q10 (41) = K10 at c10 ⊢
  generalize va_up len8 q10 16 = len10 at c10 ⊢
  generalize z2 I8 q10 0 = I10 at c10 ⊢
  generalize z2 J8 q10 0 = J10
  refine r_aload_n hC dX9_init_39 0 rfl ?_
  refine r_bipush hC (v := (60)) dX9_init_40 (by decide) (by decide) (fun z11 ez11 tz11 => ?_)
  refine r_newarray hC (atype := .int) (ty := .int) (kd := 41) (t := 1) (N := 60) rfl mT_1_152 rfl rfl rfl (by decide) (fun _ h => h) (60, arE 1 (K10, len10, fun _ _ => 0, fun _ _ => 0, fun _ _ => none) 0) rfl (ha_1 60 _ _) (nlt_0 (by omega)) (cl_of (by omega)) (by decide) (by decide) (by decide) dX9_init_42 (fun q12 hq12 => ?_)
  refine r_putrF hC 15 (ci := 9) hNm rfl u9_in tyX9_ok nmX9 (by decide) mT_5_113 rfl rfl rfl rfl dX9_init_44 (c10.kq hq12) rfl rfl (fun R12 eR12 => ?_)
  have c12 := c10.row (n := 60) (kd := 41) (k := 15) (by decide) hq12 rfl (by simp) eR12
  generalize va_up K10 q12 (41) = K12 at c12 ⊢
  generalize va_up len10 q12 60 = len12 at c12 ⊢
  generalize z2 I10 q12 0 = I12 at c12 ⊢
  generalize z2 J10 q12 0 = J12
  refine r_aload_n hC dX9_init_47 0 rfl ?_
  refine r_bipush hC (v := (6)) dX9_init_48 (by decide) (by decide) (fun z13 ez13 tz13 => ?_)
  refine r_newarray hC (atype := .int) (ty := .int) (kd := 41) (t := 1) (N := 6) rfl mT_1_152 rfl rfl rfl (by decide) (fun _ h => h) (6, arE 1 (K12, len12, fun _ _ => 0, fun _ _ => 0, fun _ _ => none) 0) rfl (ha_1 6 _ _) (nlt_0 (by omega)) (cl_of (by omega)) (by decide) (by decide) (by decide) dX9_init_50 (fun q14 hq14 => ?_)
  refine r_putrF hC 16 (ci := 9) hNm rfl u9_in tyX9_ok nmX9 (by decide) mT_5_115 rfl rfl rfl rfl dX9_init_52 (c12.kq hq14) rfl rfl (fun R14 eR14 => ?_)
  have c14 := c12.row (n := 6) (kd := 41) (k := 16) (by decide) hq14 rfl (by simp) eR14
  generalize va_up K12 q14 (41) = K14 at c14 ⊢
  generalize va_up len12 q14 6 = len14 at c14 ⊢
  generalize z2 I12 q14 0 = I14 at c14 ⊢
  generalize z2 J12 q14 0 = J14
  refine r_aload_n hC dX9_init_55 0 rfl ?_
  refine r_bipush hC (v := (6)) dX9_init_56 (by decide) (by decide) (fun z15 ez15 tz15 => ?_)
  refine r_newarray hC (atype := .int) (ty := .int) (kd := 1000 + 2 * a0) (t := 1) (N := 6) rfl mT_1_152 rfl (kOb (by omega)) (kAb (by omega)) (by omega) (fun _ h => h) (6, arE 1 (K14, len14, fun _ _ => 0, fun _ _ => 0, fun _ _ => none) 0) rfl (ha_1 6 _ _) (nlt_0 (by omega)) (cl_of (by omega)) (by decide) (by decide) (by decide) dX9_init_58 (fun q16 hq16 => ?_)
  refine r_putrF hC 17 (ci := 9) hNm rfl u9_in tyX9_ok nmX9 (by decide) mT_5_117 rfl rfl rfl rfl dX9_init_60 (c14.kq hq16) rfl rfl (fun R16 eR16 => ?_)
  have c16 := c14.row (n := 6) (kd := 1000 + 2 * a0) (k := 17) (by decide) hq16 (pk_big (by omega)) (by simp) eR16
  generalize va_up K14 q16 (1000 + 2 * a0) = K16 at c16 ⊢
  generalize va_up len14 q16 6 = len16 at c16 ⊢
  generalize z2 I14 q16 0 = I16 at c16 ⊢
  generalize z2 J14 q16 0 = J16
  refine r_aload_n hC dX9_init_63 0 rfl ?_
  refine r_bipush hC (v := (6)) dX9_init_64 (by decide) (by decide) (fun z17 ez17 tz17 => ?_)
  refine r_newarray hC (atype := .int) (ty := .int) (kd := 41) (t := 1) (N := 6) rfl mT_1_152 rfl rfl rfl (by decide) (fun _ h => h) (6, arE 1 (K16, len16, fun _ _ => 0, fun _ _ => 0, fun _ _ => none) 0) rfl (ha_1 6 _ _) (nlt_0 (by omega)) (cl_of (by omega)) (by decide) (by decide) (by decide) dX9_init_66 (fun q18 hq18 => ?_)
  refine r_putrF hC 18 (ci := 9) hNm rfl u9_in tyX9_ok nmX9 (by decide) mT_5_119 rfl rfl rfl rfl dX9_init_68 (c16.kq hq18) rfl rfl (fun R18 eR18 => ?_)
  have c18 := c16.row (n := 6) (kd := 41) (k := 18) (by decide) hq18 rfl (by simp) eR18
  generalize va_up K16 q18 (41) = K18 at c18 ⊢
  generalize va_up len16 q18 6 = len18 at c18 ⊢
  generalize z2 I16 q18 0 = I18 at c18 ⊢
  generalize z2 J16 q18 0 = J18
  refine r_aload_n hC dX9_init_71 0 rfl ?_
  refine r_bipush hC (v := (6)) dX9_init_72 (by decide) (by decide) (fun z19 ez19 tz19 => ?_)
  refine r_newarray hC (atype := .int) (ty := .int) (kd := 1001 + 2 * a0) (t := 1) (N := 6) rfl mT_1_152 rfl (kOb (by omega)) (kAb (by omega)) (by omega) (fun _ h => h) (6, arE 1 (K18, len18, fun _ _ => 0, fun _ _ => 0, fun _ _ => none) 0) rfl (ha_1 6 _ _) (nlt_0 (by omega)) (cl_of (by omega)) (by decide) (by decide) (by decide) dX9_init_74 (fun q20 hq20 => ?_)
  refine r_putrF hC 19 (ci := 9) hNm rfl u9_in tyX9_ok nmX9 (by decide) mT_5_121 rfl rfl rfl rfl dX9_init_76 (c18.kq hq20) rfl rfl (fun R20 eR20 => ?_)
  have c20 := c18.row (n := 6) (kd := 1001 + 2 * a0) (k := 19) (by decide) hq20 (pk_big (by omega)) (by simp) eR20
  generalize va_up K18 q20 (1001 + 2 * a0) = K20 at c20 ⊢
  generalize va_up len18 q20 6 = len20 at c20 ⊢
  generalize z2 I18 q20 0 = I20 at c20 ⊢
  generalize z2 J18 q20 0 = J20
  refine r_aload_n hC dX9_init_79 0 rfl ?_
  refine r_iconst hC (v := (4)) dX9_init_80 (by decide) (by decide) (fun z21 ez21 tz21 => ?_)
  refine r_newarray hC (atype := .int) (ty := .int) (kd := 41) (t := 1) (N := 4) rfl mT_1_152 rfl rfl rfl (by decide) (fun _ h => h) (4, arE 1 (K20, len20, fun _ _ => 0, fun _ _ => 0, fun _ _ => none) 0) rfl (ha_1 4 _ _) (nlt_0 (by omega)) (cl_of (by omega)) (by decide) (by decide) (by decide) dX9_init_81 (fun q22 hq22 => ?_)
  refine r_putrF hC 20 (ci := 9) hNm rfl u9_in tyX9_ok nmX9 (by decide) mT_5_123 rfl rfl rfl rfl dX9_init_83 (c20.kq hq22) rfl rfl (fun R22 eR22 => ?_)
  have c22 := c20.row (n := 4) (kd := 41) (k := 20) (by decide) hq22 rfl (by simp) eR22
  generalize va_up K20 q22 (41) = K22 at c22 ⊢
  generalize va_up len20 q22 4 = len22 at c22 ⊢
  generalize z2 I20 q22 0 = I22 at c22 ⊢
  generalize z2 J20 q22 0 = J22
  refine r_aload_n hC dX9_init_86 0 rfl ?_
  refine r_iconst hC (v := (4)) dX9_init_87 (by decide) (by decide) (fun z23 ez23 tz23 => ?_)
  refine r_newarray hC (atype := .int) (ty := .int) (kd := 41) (t := 1) (N := 4) rfl mT_1_152 rfl rfl rfl (by decide) (fun _ h => h) (4, arE 1 (K22, len22, fun _ _ => 0, fun _ _ => 0, fun _ _ => none) 0) rfl (ha_1 4 _ _) (nlt_0 (by omega)) (cl_of (by omega)) (by decide) (by decide) (by decide) dX9_init_88 (fun q24 hq24 => ?_)
  refine r_putrF hC 21 (ci := 9) hNm rfl u9_in tyX9_ok nmX9 (by decide) mT_5_125 rfl rfl rfl rfl dX9_init_90 (c22.kq hq24) rfl rfl (fun R24 eR24 => ?_)
  have c24 := c22.row (n := 4) (kd := 41) (k := 21) (by decide) hq24 rfl (by simp) eR24
  generalize va_up K22 q24 (41) = K24 at c24 ⊢
  generalize va_up len22 q24 4 = len24 at c24 ⊢
  generalize z2 I22 q24 0 = I24 at c24 ⊢
  generalize z2 J22 q24 0 = J24
  refine r_aload_n hC dX9_init_93 0 rfl ?_
  refine r_iconst hC (v := (4)) dX9_init_94 (by decide) (by decide) (fun z25 ez25 tz25 => ?_)
  refine r_newarray hC (atype := .int) (ty := .int) (kd := 41) (t := 1) (N := 4) rfl mT_1_152 rfl rfl rfl (by decide) (fun _ h => h) (4, arE 1 (K24, len24, fun _ _ => 0, fun _ _ => 0, fun _ _ => none) 0) rfl (ha_1 4 _ _) (nlt_0 (by omega)) (cl_of (by omega)) (by decide) (by decide) (by decide) dX9_init_95 (fun q26 hq26 => ?_)
  refine r_putrF hC 22 (ci := 9) hNm rfl u9_in tyX9_ok nmX9 (by decide) mT_5_127 rfl rfl rfl rfl dX9_init_97 (c24.kq hq26) rfl rfl (fun R26 eR26 => ?_)
  have c26 := c24.row (n := 4) (kd := 41) (k := 22) (by decide) hq26 rfl (by simp) eR26
  generalize va_up K24 q26 (41) = K26 at c26 ⊢
  generalize va_up len24 q26 4 = len26 at c26 ⊢
  generalize z2 I24 q26 0 = I26 at c26 ⊢
  generalize z2 J24 q26 0 = J26
  refine r_aload_n hC dX9_init_100 0 rfl ?_
  refine r_iconst hC (v := (4)) dX9_init_101 (by decide) (by decide) (fun z27 ez27 tz27 => ?_)
  refine r_newarray hC (atype := .int) (ty := .int) (kd := 41) (t := 1) (N := 4) rfl mT_1_152 rfl rfl rfl (by decide) (fun _ h => h) (4, arE 1 (K26, len26, fun _ _ => 0, fun _ _ => 0, fun _ _ => none) 0) rfl (ha_1 4 _ _) (nlt_0 (by omega)) (cl_of (by omega)) (by decide) (by decide) (by decide) dX9_init_102 (fun q28 hq28 => ?_)
  refine r_putrF hC 23 (ci := 9) hNm rfl u9_in tyX9_ok nmX9 (by decide) mT_5_129 rfl rfl rfl rfl dX9_init_104 (c26.kq hq28) rfl rfl (fun R28 eR28 => ?_)
  have c28 := c26.row (n := 4) (kd := 41) (k := 23) (by decide) hq28 rfl (by simp) eR28
  generalize va_up K26 q28 (41) = K28 at c28 ⊢
  generalize va_up len26 q28 4 = len28 at c28 ⊢
  generalize z2 I26 q28 0 = I28 at c28 ⊢
  generalize z2 J26 q28 0 = J28
  refine r_aload_n hC dX9_init_107 0 rfl ?_
  refine r_iconst hC (v := (4)) dX9_init_108 (by decide) (by decide) (fun z29 ez29 tz29 => ?_)
  refine r_newarray hC (atype := .int) (ty := .int) (kd := 41) (t := 1) (N := 4) rfl mT_1_152 rfl rfl rfl (by decide) (fun _ h => h) (4, arE 1 (K28, len28, fun _ _ => 0, fun _ _ => 0, fun _ _ => none) 0) rfl (ha_1 4 _ _) (nlt_0 (by omega)) (cl_of (by omega)) (by decide) (by decide) (by decide) dX9_init_109 (fun q30 hq30 => ?_)
  refine r_putrF hC 24 (ci := 9) hNm rfl u9_in tyX9_ok nmX9 (by decide) mT_5_131 rfl rfl rfl rfl dX9_init_111 (c28.kq hq30) rfl rfl (fun R30 eR30 => ?_)
  have c30 := c28.row (n := 4) (kd := 41) (k := 24) (by decide) hq30 rfl (by simp) eR30
  generalize va_up K28 q30 (41) = K30 at c30 ⊢
  generalize va_up len28 q30 4 = len30 at c30 ⊢
  generalize z2 I28 q30 0 = I30 at c30 ⊢
  generalize z2 J28 q30 0 = J30
  refine r_aload_n hC dX9_init_114 0 rfl ?_
  refine r_bipush hC (v := (19)) dX9_init_115 (by decide) (by decide) (fun z31 ez31 tz31 => ?_)
  refine r_newarray hC (atype := .long) (ty := .long) (kd := 42) (t := 2) (N := 19) rfl mT_1_80 rfl rfl rfl (by decide) (fun _ h => h) (19, arE 2 (K30, len30, fun _ _ => 0, fun _ _ => 0, fun _ _ => none) 0) rfl (ha_2 19 _ _) (nlt_0 (by omega)) (cl_of (by omega)) (by decide) (by decide) (by decide) dX9_init_117 (fun q32 hq32 => ?_)
  refine r_putrF hC 25 (ci := 9) hNm rfl u9_in tyX9_ok nmX9 (by decide) mT_5_133 rfl rfl rfl rfl dX9_init_119 (c30.kq hq32) rfl rfl (fun R32 eR32 => ?_)
  have c32 := c30.row (n := 19) (kd := 42) (k := 25) (by decide) hq32 rfl (by simp) eR32
  generalize va_up K30 q32 (42) = K32 at c32 ⊢
  generalize va_up len30 q32 19 = len32 at c32 ⊢
  generalize z2 I30 q32 0 = I32 at c32 ⊢
  generalize z2 J30 q32 0 = J32
  refine r_aload_n hC dX9_init_122 0 rfl ?_
  refine r_bipush hC (v := (19)) dX9_init_123 (by decide) (by decide) (fun z33 ez33 tz33 => ?_)
  refine r_newarray hC (atype := .int) (ty := .int) (kd := 41) (t := 1) (N := 19) rfl mT_1_152 rfl rfl rfl (by decide) (fun _ h => h) (19, arE 1 (K32, len32, fun _ _ => 0, fun _ _ => 0, fun _ _ => none) 0) rfl (ha_1 19 _ _) (nlt_0 (by omega)) (cl_of (by omega)) (by decide) (by decide) (by decide) dX9_init_125 (fun q34 hq34 => ?_)
  refine r_putrF hC 26 (ci := 9) hNm rfl u9_in tyX9_ok nmX9 (by decide) mT_5_135 rfl rfl rfl rfl dX9_init_127 (c32.kq hq34) rfl rfl (fun R34 eR34 => ?_)
  have c34 := c32.row (n := 19) (kd := 41) (k := 26) (by decide) hq34 rfl (by simp) eR34
  generalize va_up K32 q34 (41) = K34 at c34 ⊢
  generalize va_up len32 q34 19 = len34 at c34 ⊢
  generalize z2 I32 q34 0 = I34 at c34 ⊢
  generalize z2 J32 q34 0 = J34
  refine r_aload_n hC dX9_init_130 0 rfl ?_
  refine r_bipush hC (v := (19)) dX9_init_131 (by decide) (by decide) (fun z35 ez35 tz35 => ?_)
  refine r_newarray hC (atype := .int) (ty := .int) (kd := 41) (t := 1) (N := 19) rfl mT_1_152 rfl rfl rfl (by decide) (fun _ h => h) (19, arE 1 (K34, len34, fun _ _ => 0, fun _ _ => 0, fun _ _ => none) 0) rfl (ha_1 19 _ _) (nlt_0 (by omega)) (cl_of (by omega)) (by decide) (by decide) (by decide) dX9_init_133 (fun q36 hq36 => ?_)
  refine r_putrF hC 27 (ci := 9) hNm rfl u9_in tyX9_ok nmX9 (by decide) mT_5_137 rfl rfl rfl rfl dX9_init_135 (c34.kq hq36) rfl rfl (fun R36 eR36 => ?_)
  have c36 := c34.row (n := 19) (kd := 41) (k := 27) (by decide) hq36 rfl (by simp) eR36
  generalize va_up K34 q36 (41) = K36 at c36 ⊢
  generalize va_up len34 q36 19 = len36 at c36 ⊢
  generalize z2 I34 q36 0 = I36 at c36 ⊢
  generalize z2 J34 q36 0 = J36
  refine r_seal (q := a0) (ci := 9) c36.2.1 rfl rfl ?_
  have md37 := c36.made (J := J36) (by decide) (by simp [refT]) (rz9) (fun _ => by decide) (fun z => absurd z (by decide)) (fun _ => ⟨by decide, q16, q20, by simp, by simp⟩)
  exact r_vret hC hQ hlk hr (by decide) (by decide) dX9_init_138 ⟨rfl, md37⟩
abbrev rmX10_init : Room := { frames := 1, cells := 10, slots := 1962, locals := 20 }
set_option maxHeartbeats 4000000 in
set_option maxRecDepth 100000 in
theorem c_X10_init (g : GG) (l : Launch) (K len : Nat → Nat) (I : Nat → Nat → Int32) (J : Nat → Nat → Int64) (R : Nat → Nat → Option Nat) (hs : Sf K len I R) (a0 : Nat) (ka0 : K a0 = 21 + 10) (hz : I a0 = fun _ => 0) (hn : ∀ k, R a0 k = none) : Ct g l yX10_init cX10_init 1 none rmX10_init [.ref a0] (K, len, I, J, R) (pV5 (Made K len I R a0 10 (va_up (fun _ => 0) 2 (-1)))) := by
  refine Ct_intro (by decide +kernel) (Nat.le_of_ble_eq_true rfl) (fun X hC hL hKK hNm hr hlk hQ => ?_)
  subst hL
  have hC : Cx g X cX10_init "HillTapModel" 1 rmX10_init := hC
  show P g X 1 0 [(0, .ref a0)] [] 0 0 (K, len, I, J, R)
  have c0 : Con K len I R a0 10 (fun _ => 0) [] K len I R := Con.start hs ka0 hz hn
  refine r_aload_n hC dX10_init_0 0 rfl ?_
  refine r_objInit hC mT_4_234 mT_1_28 mT_1_29 dX10_init_1 (by decide) (by decide) ?_
  refine r_aload_n hC dX10_init_4 0 rfl ?_
  refine r_iconst hC (v := (-1)) dX10_init_5 (by decide) (by decide) (fun z1 ez1 tz1 => ?_)
  refine r_puti hC 2 (ci := 10) rfl u10_in tyX10_ok nmX10 (by decide) mT_4_237 rfl rfl rfl dX10_init_6 c0.2.1 rfl rfl (fun I2 eI2 => ?_)
  rw [ez1] at eI2
  have c2 := c0.num (by decide) eI2
  refine r_aload_n hC dX10_init_9 0 rfl ?_
  refine r_sipush hC (v := (900)) dX10_init_10 (by decide) (by decide) (fun z3 ez3 tz3 => ?_)
  refine r_newarray hC (atype := .byte) (ty := .byte) (kd := 40) (t := 0) (N := 900) rfl mT_1_46 rfl rfl rfl (by decide) (fun _ h => h) (900, arE 0 (K, len, fun _ _ => 0, fun _ _ => 0, fun _ _ => none) 0) rfl (ha_0 900 _ _) (nlt_0 (by omega)) (cl_of (by omega)) (by decide) (by decide) (by decide) dX10_init_13 (fun q4 hq4 => ?_)
  refine r_putrF hC 5 (ci := 10) hNm rfl u10_in tyX10_ok nmX10 (by decide) mT_5_0 rfl rfl rfl rfl dX10_init_15 (c2.kq hq4) rfl rfl (fun R4 eR4 => ?_)
  have c4 := c2.row (n := 900) (kd := 40) (k := 5) (by decide) hq4 rfl (by simp) eR4
  generalize va_up K q4 (40) = K4 at c4 ⊢
  generalize va_up len q4 900 = len4 at c4 ⊢
  generalize z2 I2 q4 0 = I4 at c4 ⊢
  generalize z2 J q4 0 = J4
  refine r_aload_n hC dX10_init_18 0 rfl ?_
  refine r_bipush hC (v := (60)) dX10_init_19 (by decide) (by decide) (fun z5 ez5 tz5 => ?_)
  refine r_newarray hC (atype := .int) (ty := .int) (kd := 41) (t := 1) (N := 60) rfl mT_1_152 rfl rfl rfl (by decide) (fun _ h => h) (60, arE 1 (K4, len4, fun _ _ => 0, fun _ _ => 0, fun _ _ => none) 0) rfl (ha_1 60 _ _) (nlt_0 (by omega)) (cl_of (by omega)) (by decide) (by decide) (by decide) dX10_init_21 (fun q6 hq6 => ?_)
  refine r_putrF hC 15 (ci := 10) hNm rfl u10_in tyX10_ok nmX10 (by decide) mT_5_10 rfl rfl rfl rfl dX10_init_23 (c4.kq hq6) rfl rfl (fun R6 eR6 => ?_)
  have c6 := c4.row (n := 60) (kd := 41) (k := 15) (by decide) hq6 rfl (by simp) eR6
  generalize va_up K4 q6 (41) = K6 at c6 ⊢
  generalize va_up len4 q6 60 = len6 at c6 ⊢
  generalize z2 I4 q6 0 = I6 at c6 ⊢
  generalize z2 J4 q6 0 = J6
  refine r_aload_n hC dX10_init_26 0 rfl ?_
  refine r_sipush hC (v := (300)) dX10_init_27 (by decide) (by decide) (fun z7 ez7 tz7 => ?_)
  refine r_newarray hC (atype := .int) (ty := .int) (kd := 41) (t := 1) (N := 300) rfl mT_1_152 rfl rfl rfl (by decide) (fun _ h => h) (300, arE 1 (K6, len6, fun _ _ => 0, fun _ _ => 0, fun _ _ => none) 0) rfl (ha_1 300 _ _) (nlt_0 (by omega)) (cl_of (by omega)) (by decide) (by decide) (by decide) dX10_init_30 (fun q8 hq8 => ?_)
  refine r_putrF hC 16 (ci := 10) hNm rfl u10_in tyX10_ok nmX10 (by decide) mT_5_11 rfl rfl rfl rfl dX10_init_32 (c6.kq hq8) rfl rfl (fun R8 eR8 => ?_)
  have c8 := c6.row (n := 300) (kd := 41) (k := 16) (by decide) hq8 rfl (by simp) eR8
  generalize va_up K6 q8 (41) = K8 at c8 ⊢
  generalize va_up len6 q8 300 = len8 at c8 ⊢
  generalize z2 I6 q8 0 = I8 at c8 ⊢
  generalize z2 J6 q8 0 = J8
  refine r_aload_n hC dX10_init_35 0 rfl ?_
  refine r_sipush hC (v := (300)) dX10_init_36 (by decide) (by decide) (fun z9 ez9 tz9 => ?_)
  refine r_newarray hC (atype := .int) (ty := .int) (kd := 41) (t := 1) (N := 300) rfl mT_1_152 rfl rfl rfl (by decide) (fun _ h => h) (300, arE 1 (K8, len8, fun _ _ => 0, fun _ _ => 0, fun _ _ => none) 0) rfl (ha_1 300 _ _) (nlt_0 (by omega)) (cl_of (by omega)) (by decide) (by decide) (by decide) dX10_init_39 (fun q10 hq10 => ?_)
  refine r_putrF hC 17 (ci := 10) hNm rfl u10_in tyX10_ok nmX10 (by decide) mT_5_12 rfl rfl rfl rfl dX10_init_41 (c8.kq hq10) rfl rfl (fun R10 eR10 => ?_)
  have c10 := c8.row (n := 300) (kd := 41) (k := 17) (by decide) hq10 rfl (by simp) eR10
  generalize va_up K8 q10 (41) = K10 at c10 ⊢
  generalize va_up len8 q10 300 = len10 at c10 ⊢
  generalize z2 I8 q10 0 = I10 at c10 ⊢
  generalize z2 J8 q10 0 = J10
  refine r_aload_n hC dX10_init_44 0 rfl ?_
  refine r_sipush hC (v := (300)) dX10_init_45 (by decide) (by decide) (fun z11 ez11 tz11 => ?_)
  refine r_newarray hC (atype := .int) (ty := .int) (kd := 41) (t := 1) (N := 300) rfl mT_1_152 rfl rfl rfl (by decide) (fun _ h => h) (300, arE 1 (K10, len10, fun _ _ => 0, fun _ _ => 0, fun _ _ => none) 0) rfl (ha_1 300 _ _) (nlt_0 (by omega)) (cl_of (by omega)) (by decide) (by decide) (by decide) dX10_init_48 (fun q12 hq12 => ?_)
  refine r_putrF hC 18 (ci := 10) hNm rfl u10_in tyX10_ok nmX10 (by decide) mT_5_13 rfl rfl rfl rfl dX10_init_50 (c10.kq hq12) rfl rfl (fun R12 eR12 => ?_)
  have c12 := c10.row (n := 300) (kd := 41) (k := 18) (by decide) hq12 rfl (by simp) eR12
  generalize va_up K10 q12 (41) = K12 at c12 ⊢
  generalize va_up len10 q12 300 = len12 at c12 ⊢
  generalize z2 I10 q12 0 = I12 at c12 ⊢
  generalize z2 J10 q12 0 = J12
  refine r_aload_n hC dX10_init_53 0 rfl ?_
  refine r_bipush hC (v := (24)) dX10_init_54 (by decide) (by decide) (fun z13 ez13 tz13 => ?_)
  refine r_newarray hC (atype := .int) (ty := .int) (kd := 46) (t := 1) (N := 24) rfl mT_1_152 rfl rfl rfl (by decide) (fun _ h => h) (24, arE 1 (K12, len12, fun _ _ => 0, fun _ _ => 0, fun _ _ => none) 0) rfl (ha_1 24 _ _) (nlt_0 (by omega)) (cl_of (by omega)) (by decide) (by decide) (by decide) dX10_init_56 (fun q14 hq14 => ?_)
  refine r_putrF hC 21 (ci := 10) hNm rfl u10_in tyX10_ok nmX10 (by decide) mT_5_16 rfl rfl rfl rfl dX10_init_58 (c12.kq hq14) rfl rfl (fun R14 eR14 => ?_)
  have c14 := c12.row (n := 24) (kd := 46) (k := 21) (by decide) hq14 rfl (by simp) eR14
  generalize va_up K12 q14 (46) = K14 at c14 ⊢
  generalize va_up len12 q14 24 = len14 at c14 ⊢
  generalize z2 I12 q14 0 = I14 at c14 ⊢
  generalize z2 J12 q14 0 = J14
  refine r_aload_n hC dX10_init_61 0 rfl ?_
  refine r_bipush hC (v := (24)) dX10_init_62 (by decide) (by decide) (fun z15 ez15 tz15 => ?_)
  refine r_newarray hC (atype := .int) (ty := .int) (kd := 47) (t := 1) (N := 24) rfl mT_1_152 rfl rfl rfl (by decide) (fun _ h => h) (24, arE 1 (K14, len14, fun _ _ => 0, fun _ _ => 0, fun _ _ => none) 0) rfl (ha_1 24 _ _) (nlt_0 (by omega)) (cl_of (by omega)) (by decide) (by decide) (by decide) dX10_init_64 (fun q16 hq16 => ?_)
  refine r_putrF hC 22 (ci := 10) hNm rfl u10_in tyX10_ok nmX10 (by decide) mT_5_17 rfl rfl rfl rfl dX10_init_66 (c14.kq hq16) rfl rfl (fun R16 eR16 => ?_)
  have c16 := c14.row (n := 24) (kd := 47) (k := 22) (by decide) hq16 rfl (by simp) eR16
  generalize va_up K14 q16 (47) = K16 at c16 ⊢
  generalize va_up len14 q16 24 = len16 at c16 ⊢
  generalize z2 I14 q16 0 = I16 at c16 ⊢
  generalize z2 J14 q16 0 = J16
  refine r_aload_n hC dX10_init_69 0 rfl ?_
  refine r_bipush hC (v := (24)) dX10_init_70 (by decide) (by decide) (fun z17 ez17 tz17 => ?_)
  refine r_newarray hC (atype := .int) (ty := .int) (kd := 41) (t := 1) (N := 24) rfl mT_1_152 rfl rfl rfl (by decide) (fun _ h => h) (24, arE 1 (K16, len16, fun _ _ => 0, fun _ _ => 0, fun _ _ => none) 0) rfl (ha_1 24 _ _) (nlt_0 (by omega)) (cl_of (by omega)) (by decide) (by decide) (by decide) dX10_init_72 (fun q18 hq18 => ?_)
  refine r_putrF hC 23 (ci := 10) hNm rfl u10_in tyX10_ok nmX10 (by decide) mT_5_18 rfl rfl rfl rfl dX10_init_74 (c16.kq hq18) rfl rfl (fun R18 eR18 => ?_)
  have c18 := c16.row (n := 24) (kd := 41) (k := 23) (by decide) hq18 rfl (by simp) eR18
  generalize va_up K16 q18 (41) = K18 at c18 ⊢
  generalize va_up len16 q18 24 = len18 at c18 ⊢
  generalize z2 I16 q18 0 = I18 at c18 ⊢
  generalize z2 J16 q18 0 = J18
  refine r_aload_n hC dX10_init_77 0 rfl ?_
  refine r_bipush hC (v := (24)) dX10_init_78 (by decide) (by decide) (fun z19 ez19 tz19 => ?_)
  refine r_newarray hC (atype := .int) (ty := .int) (kd := 41) (t := 1) (N := 24) rfl mT_1_152 rfl rfl rfl (by decide) (fun _ h => h) (24, arE 1 (K18, len18, fun _ _ => 0, fun _ _ => 0, fun _ _ => none) 0) rfl (ha_1 24 _ _) (nlt_0 (by omega)) (cl_of (by omega)) (by decide) (by decide) (by decide) dX10_init_80 (fun q20 hq20 => ?_)
  refine r_putrF hC 24 (ci := 10) hNm rfl u10_in tyX10_ok nmX10 (by decide) mT_5_19 rfl rfl rfl rfl dX10_init_82 (c18.kq hq20) rfl rfl (fun R20 eR20 => ?_)
  have c20 := c18.row (n := 24) (kd := 41) (k := 24) (by decide) hq20 rfl (by simp) eR20
  generalize va_up K18 q20 (41) = K20 at c20 ⊢
  generalize va_up len18 q20 24 = len20 at c20 ⊢
  generalize z2 I18 q20 0 = I20 at c20 ⊢
  generalize z2 J18 q20 0 = J20
  refine r_aload_n hC dX10_init_85 0 rfl ?_
  refine r_bipush hC (v := (6)) dX10_init_86 (by decide) (by decide) (fun z21 ez21 tz21 => ?_)
  refine r_newarray hC (atype := .boolean) (ty := .boolean) (kd := 43) (t := 3) (N := 6) rfl mT_2_77 rfl rfl rfl (by decide) (fun _ h => h) (6, arE 3 (K20, len20, fun _ _ => 0, fun _ _ => 0, fun _ _ => none) 0) rfl (ha_3 6 _ _) (nlt_0 (by omega)) (cl_of (by omega)) (by decide) (by decide) (by decide) dX10_init_88 (fun q22 hq22 => ?_)
  refine r_putrF hC 25 (ci := 10) hNm rfl u10_in tyX10_ok nmX10 (by decide) mT_5_20 rfl rfl rfl rfl dX10_init_90 (c20.kq hq22) rfl rfl (fun R22 eR22 => ?_)
  have c22 := c20.row (n := 6) (kd := 43) (k := 25) (by decide) hq22 rfl (by simp) eR22
  generalize va_up K20 q22 (43) = K22 at c22 ⊢
  generalize va_up len20 q22 6 = len22 at c22 ⊢
  generalize z2 I20 q22 0 = I22 at c22 ⊢
  generalize z2 J20 q22 0 = J22
  refine r_seal (q := a0) (ci := 10) c22.2.1 rfl rfl ?_
  have md23 := c22.made (J := J22) (by decide) (by simp [refT]) (rz10) (fun z => absurd z (by decide)) (fun _ => ⟨by decide, by simp, by simp⟩) (fun z => absurd z (by decide))
  exact r_vret hC hQ hlk hr (by decide) (by decide) dX10_init_93 ⟨rfl, md23⟩
abbrev rmX8_init : Room := { frames := 3, cells := 97, slots := 8723, locals := 62 }
set_option maxHeartbeats 4000000 in
set_option maxRecDepth 100000 in
theorem c_X8_init (g : GG) (l : Launch) (K len : Nat → Nat) (I : Nat → Nat → Int32) (J : Nat → Nat → Int64) (R : Nat → Nat → Option Nat) (hs : Sf K len I R) (a0 : Nat) (ka0 : K a0 = 21 + 8) (hz : I a0 = fun _ => 0) (hn : ∀ k, R a0 k = none) : Ct g l yX8_init cX8_init 2 none rmX8_init [.ref a0] (K, len, I, J, R) (pV5 (fun M' => Made K len I R a0 8 (va_up (fun _ => 0) 12 0) M' ∧ ∃ T, M'.2.2.2.2 a0 0 = some T ∧ M'.2.2.1 T 1 = 0 ∧ M'.1 T = 6)) := by
  refine Ct_intro (by decide +kernel) (Nat.le_of_ble_eq_true rfl) (fun X hC hL hKK hNm hr hlk hQ => ?_)
  subst hL
  have hC : Cx g X cX8_init "HillTap" 2 rmX8_init := hC
  show P g X 2 0 [(0, .ref a0)] [] 0 0 (K, len, I, J, R)
  have c0 : Con K len I R a0 8 (fun _ => 0) [] K len I R := Con.start hs ka0 hz hn
  refine r_aload_n hC dX8_init_0 0 rfl ?_
  refine r_objInit hC mT_1_27 mT_1_28 mT_1_29 dX8_init_1 (by decide) (by decide) ?_
  refine r_aload_n hC dX8_init_4 0 rfl ?_
  refine r_new hC (ci := 5) (ty := tyX5) rfl u5_in tyX5_ok df5 mT_1_30 mT_1_31 mT_1_2 rfl (by decide) (by decide) dX8_init_5 (fun q1 hq1 => ?_)
  refine r_dup hC dX8_init_8 rfl ?_
  refine r_callIN hC (As := []) (rest := [.ref q1, .ref a0]) (c_X5_init g (xL X) _ _ _ _ _ (c0.1.growO hq1 rfl) q1 (va_up_self _ _ _) (by funext j; exact z2_self _ _ _ _) (fun j => z2_self _ _ _ _)) mT_1_34 mT_1_2 nM_0 mT_1_33 rfl okX5_init ⟨by decide, by decide⟩ rfl rfl (Nat.le_of_ble_eq_true rfl) ⟨by decide, by decide⟩ dX8_init_9 (aV5 (F := fun st M => P g X 2 12 [(0, .ref a0)] st _ _ M) fun M2 h2 => ?_)
  obtain ⟨K2, len2, I2, J2, R2⟩ := M2
  obtain ⟨c2, hk2, hqa2, hz2⟩ := c0.after hq1 h2
  show P g X 2 12 [(0, .ref a0)] [.ref q1, .ref a0] _ _ (K2, len2, I2, J2, R2)
  refine r_putrF hC 0 (ci := 8) hNm rfl u8_in tyX8_ok nmX8 (by decide) mT_2_78 rfl rfl rfl rfl dX8_init_12 (c2.2.1) rfl rfl (fun R3 eR3 => ?_)
  have c3 := c2.old (n := len2 q1) (by decide) hk2 rfl (by decide) hqa2 (by simp) eR3
  have tpz : I2 q1 1 = 0 := by rw [hz2]
  have tpk := (c3.2.2.2.1 (0, q1, 6, len2 q1) (by simp)).2.1
  have cB := c3
  have c3x := c3.rebase
  refine r_aload_n hC dX8_init_15 0 rfl ?_
  refine r_new hC (ci := 6) (ty := tyX6) rfl u6_in tyX6_ok df6 mT_1_47 mT_1_48 mT_1_3 rfl (by decide) (by decide) dX8_init_16 (fun q4 hq4 => ?_)
  refine r_dup hC dX8_init_19 rfl ?_
  refine r_aload_n hC dX8_init_20 0 rfl ?_
  have hne4 : a0 ≠ q4 := fun z => c3x.ne0 (by rw [z]; exact hq4)
  have htp4 := c3x.2.2.2.1 (0, q1, 6, len2 q1) (by simp)
  refine r_getr hC 0 (ci := 8) rfl u8_in (by decide) mT_2_78 dX8_init_21 (c3x.kq hq4) rfl rfl (by rw [z2_ne _ _ _ hne4]; exact htp4.1) ?_
  refine r_callI hC (As := [.ref q1]) (rest := [.ref q4, .ref a0]) (c_X6_init g (xL X) _ _ _ _ _ (c3x.1.growO hq4 rfl) q4 (va_up_self _ _ _) (by funext j; exact z2_self _ _ _ _) (fun j => z2_self _ _ _ _) q1 (kup hq4 htp4.2.1 (by decide))) mT_1_51 mT_1_3 mT_1_49 mT_1_50 rfl okX6_init ⟨by decide, by decide⟩ rfl rfl (Nat.le_of_ble_eq_true rfl) ⟨by decide, by decide⟩ dX8_init_24 (aV5 (F := fun st M => P g X 2 27 [(0, .ref a0)] st _ _ M) fun M5 h5 => ?_)
  obtain ⟨K5, len5, I5, J5, R5⟩ := M5
  obtain ⟨c5, hk5, hqa5, hz5⟩ := c3x.after hq4 h5
  show P g X 2 27 [(0, .ref a0)] [.ref q4, .ref a0] _ _ (K5, len5, I5, J5, R5)
  refine r_putrF hC 1 (ci := 8) hNm rfl u8_in tyX8_ok nmX8 (by decide) mT_2_79 rfl rfl rfl rfl dX8_init_27 (c5.2.1) rfl rfl (fun R6 eR6 => ?_)
  have c6 := c5.old (n := len5 q4) (by decide) hk5 rfl (by decide) hqa5 (by simp) eR6
  refine r_aload_n hC dX8_init_30 0 rfl ?_
  refine r_new hC (ci := 1) (ty := tyX1) rfl u1_in tyX1_ok df1 mT_1_105 mT_1_106 mT_1_5 rfl (by decide) (by decide) dX8_init_31 (fun q7 hq7 => ?_)
  refine r_dup hC dX8_init_34 rfl ?_
  refine r_callI hC (As := []) (rest := [.ref q7, .ref a0]) (c_X1_init g (xL X) _ _ _ _ _ (c6.1.growO hq7 rfl) q7 (va_up_self _ _ _) (by funext j; exact z2_self _ _ _ _) (fun j => z2_self _ _ _ _)) mT_1_109 mT_1_5 mT_1_107 mT_1_108 rfl okX1_init ⟨by decide, by decide⟩ rfl rfl (Nat.le_of_ble_eq_true rfl) ⟨by decide, by decide⟩ dX8_init_35 (aV5 (F := fun st M => P g X 2 38 [(0, .ref a0)] st _ _ M) fun M8 h8 => ?_)
  obtain ⟨K8, len8, I8, J8, R8⟩ := M8
  obtain ⟨c8, hk8, hqa8, hz8⟩ := c6.after hq7 h8
  show P g X 2 38 [(0, .ref a0)] [.ref q7, .ref a0] _ _ (K8, len8, I8, J8, R8)
  refine r_putr hC 2 (ci := 8) rfl u8_in tyX8_ok nmX8 (by decide) mT_2_80 rfl rfl rfl dX8_init_38 (c8.2.1) rfl rfl (fun R9 eR9 => ?_)
  have c9 := c8.old (n := len8 q7) (by decide) hk8 rfl (by decide) hqa8 (by simp) eR9
  refine r_aload_n hC dX8_init_41 0 rfl ?_
  refine r_new hC (ci := 1) (ty := tyX1) rfl u1_in tyX1_ok df1 mT_1_105 mT_1_106 mT_1_5 rfl (by decide) (by decide) dX8_init_42 (fun q10 hq10 => ?_)
  refine r_dup hC dX8_init_45 rfl ?_
  refine r_callI hC (As := []) (rest := [.ref q10, .ref a0]) (c_X1_init g (xL X) _ _ _ _ _ (c9.1.growO hq10 rfl) q10 (va_up_self _ _ _) (by funext j; exact z2_self _ _ _ _) (fun j => z2_self _ _ _ _)) mT_1_109 mT_1_5 mT_1_107 mT_1_108 rfl okX1_init ⟨by decide, by decide⟩ rfl rfl (Nat.le_of_ble_eq_true rfl) ⟨by decide, by decide⟩ dX8_init_46 (aV5 (F := fun st M => P g X 2 49 [(0, .ref a0)] st _ _ M) fun M11 h11 => ?_)
  obtain ⟨K11, len11, I11, J11, R11⟩ := M11
  obtain ⟨c11, hk11, hqa11, hz11⟩ := c9.after hq10 h11
  show P g X 2 49 [(0, .ref a0)] [.ref q10, .ref a0] _ _ (K11, len11, I11, J11, R11)
  refine r_putr hC 3 (ci := 8) rfl u8_in tyX8_ok nmX8 (by decide) mT_2_81 rfl rfl rfl dX8_init_49 (c11.2.1) rfl rfl (fun R12 eR12 => ?_)
  have c12 := c11.old (n := len11 q10) (by decide) hk11 rfl (by decide) hqa11 (by simp) eR12
  refine r_aload_n hC dX8_init_52 0 rfl ?_
  refine r_bipush hC (v := (60)) dX8_init_53 (by decide) (by decide) (fun z13 ez13 tz13 => ?_)
  refine r_newarray hC (atype := .int) (ty := .int) (kd := 41) (t := 1) (N := 60) rfl mT_1_152 rfl rfl rfl (by decide) (fun _ h => h) (60, arE 1 (K11, len11, fun _ _ => 0, fun _ _ => 0, fun _ _ => none) 0) rfl (ha_1 60 _ _) (nlt_0 (by omega)) (cl_of (by omega)) (by decide) (by decide) (by decide) dX8_init_55 (fun q14 hq14 => ?_)
  refine r_putrF hC 4 (ci := 8) hNm rfl u8_in tyX8_ok nmX8 (by decide) mT_2_82 rfl rfl rfl rfl dX8_init_57 (c12.kq hq14) rfl rfl (fun R14 eR14 => ?_)
  have c14 := c12.row (n := 60) (kd := 41) (k := 4) (by decide) hq14 rfl (by simp) eR14
  generalize va_up K11 q14 (41) = K14 at c14 ⊢
  generalize va_up len11 q14 60 = len14 at c14 ⊢
  generalize z2 I11 q14 0 = I14 at c14 ⊢
  generalize z2 J11 q14 0 = J14
  refine r_aload_n hC dX8_init_60 0 rfl ?_
  refine r_bipush hC (v := (6)) dX8_init_61 (by decide) (by decide) (fun z15 ez15 tz15 => ?_)
  refine r_anewarray hC (kd := 34) (t := 4) (N := 6) mT_2_18 hC.2.2.2.2.2.2.2.1.2.2.2.1 rfl rfl rfl (by decide) (by decide) (nlt_0 (by omega)) (cl_of (by omega)) (by decide) (by decide) (by decide) dX8_init_63 (fun q16 hq16 => ?_)
  refine r_putrF hC 5 (ci := 8) hNm rfl u8_in tyX8_ok nmX8 (by decide) mT_2_83 rfl rfl rfl rfl dX8_init_66 (c14.kq hq16) rfl rfl (fun R16 eR16 => ?_)
  have hz0q16 := c14.fresh hq16
  have c16 := c14.row (n := 6) (kd := 34) (k := 5) (by decide) hq16 rfl (by simp) eR16
  generalize va_up K14 q16 (34) = K16 at c16 ⊢
  generalize va_up len14 q16 6 = len16 at c16 ⊢
  generalize z2 I14 q16 0 = I16 at c16 ⊢
  generalize z2 J14 q16 0 = J16
  refine r_iconst hC (v := (0)) dX8_init_69 (by decide) (by decide) (fun z17 ez17 tz17 => ?_)
  refine r_istore_n hC (lv' := [(1, .int z17), (0, .ref a0)]) dX8_init_70 (by decide) rfl ?_
  have fl18 : Fil q16 0 1 K16 R16 := fun i hi => absurd hi (by omega)
  refine r_iload_n hC dX8_init_71 0 rfl ?_
  refine r_bipush hC (v := (6)) dX8_init_72 (by decide) (by decide) (fun z19 ez19 tz19 => ?_)
  refine r_icmp_ge hC (tgt := 96) dX8_init_74 (by decide) (fun cc20 => absurd cc20 (by omega)) (fun cc20 => ?_)
  refine r_aload_n hC dX8_init_77 1 rfl ?_
  have ha21 := c16.2.2.2.1 (5, q16, 34, 6) (by simp)
  refine r_getr hC 5 (ci := 8) rfl u8_in (by decide) mT_2_83 dX8_init_78 c16.2.1 rfl rfl ha21.1 ?_
  refine r_iload_n hC dX8_init_81 0 rfl ?_
  refine r_new hC (ci := 0) (ty := tyX0) rfl u0_in tyX0_ok df0 mT_2_18 mT_2_20 mT_1_8 rfl (by decide) (by decide) dX8_init_82 (fun q22 hq22 => ?_)
  refine r_dup hC dX8_init_85 rfl ?_
  refine r_callIN hC (As := []) (rest := [.ref q22, .int z17, .ref q16]) (c_X0_init g (xL X) _ _ _ _ _ (c16.1.growO hq22 rfl) q22 (va_up_self _ _ _) (by funext j; exact z2_self _ _ _ _) (fun j => z2_self _ _ _ _)) mT_2_23 mT_1_8 nM_3 mT_2_22 rfl okX0_init ⟨by decide, by decide⟩ rfl rfl (Nat.le_of_ble_eq_true rfl) ⟨by decide, by decide⟩ dX8_init_86 (aV5 (F := fun st M => P g X 2 89 [(1, .int z17), (0, .ref a0)] st _ _ M) fun M23 h23 => ?_)
  obtain ⟨K23, len23, I23, J23, R23⟩ := M23
  obtain ⟨c23, hk23, hqa23, hz23⟩ := c16.after hq22 h23
  show P g X 2 89 [(1, .int z17), (0, .ref a0)] [.ref q22, .int z17, .ref q16] _ _ (K23, len23, I23, J23, R23)
  obtain ⟨fl23, ka23, la23⟩ := fl18.after (by rw [ha21.2.1]; exact Nat.succ_ne_zero _) hq22 h23
  have kb23 : K23 q16 = 34 := ka23.trans ha21.2.1
  have lb23 : len23 q16 = 6 := la23.trans ha21.2.2.2
  refine r_aastore hC (ci := 0) (t := 4) (by rw [kb23]; decide) (by rw [kb23]; rfl) (by rw [kb23]; rfl) (by decide) (by rw [hk23]; rfl) rfl (by omega) (by rw [lb23]; omega) dX8_init_89 (fun R24 eR24 => ?_)
  rw [cl_of (z := z17) (n := 0) (by omega)] at eR24
  obtain ⟨c24, fl24⟩ := c23.elem (b := q16) kb23 rfl ha21.2.2.1.1 hz0q16 fl23 hk23 (by decide) eR24
  obtain ⟨w25, ew25⟩ : ∃ z : Int32, z = z17 + Int32.ofInt 1 := ⟨_, rfl⟩
  refine r_iinc hC (j := 0) (v := w25) (lv' := [(1, .int w25), (0, .ref a0)]) dX8_init_90 rfl (by rw [ew25]) (by decide) rfl ?_
  have tw25 : w25.toInt = 1 := by rw [ew25, ti_add (b := Int32.ofInt 1) (by show _ ≤ _ + (1 : Int); omega) (by show _ + (1 : Int) ≤ _; omega)]; show _ + (1 : Int) = _; omega
  refine r_goto hC (tgt := 71) dX8_init_93 (by decide) ?_
  refine r_iload_n hC dX8_init_71 0 rfl ?_
  refine r_bipush hC (v := (6)) dX8_init_72 (by decide) (by decide) (fun z26 ez26 tz26 => ?_)
  refine r_icmp_ge hC (tgt := 96) dX8_init_74 (by decide) (fun cc27 => absurd cc27 (by omega)) (fun cc27 => ?_)
  refine r_aload_n hC dX8_init_77 1 rfl ?_
  have ha28 := c24.2.2.2.1 (5, q16, 34, 6) (by simp)
  refine r_getr hC 5 (ci := 8) rfl u8_in (by decide) mT_2_83 dX8_init_78 c24.2.1 rfl rfl ha28.1 ?_
  refine r_iload_n hC dX8_init_81 0 rfl ?_
  refine r_new hC (ci := 0) (ty := tyX0) rfl u0_in tyX0_ok df0 mT_2_18 mT_2_20 mT_1_8 rfl (by decide) (by decide) dX8_init_82 (fun q29 hq29 => ?_)
  refine r_dup hC dX8_init_85 rfl ?_
  refine r_callIN hC (As := []) (rest := [.ref q29, .int w25, .ref q16]) (c_X0_init g (xL X) _ _ _ _ _ (c24.1.growO hq29 rfl) q29 (va_up_self _ _ _) (by funext j; exact z2_self _ _ _ _) (fun j => z2_self _ _ _ _)) mT_2_23 mT_1_8 nM_3 mT_2_22 rfl okX0_init ⟨by decide, by decide⟩ rfl rfl (Nat.le_of_ble_eq_true rfl) ⟨by decide, by decide⟩ dX8_init_86 (aV5 (F := fun st M => P g X 2 89 [(1, .int w25), (0, .ref a0)] st _ _ M) fun M30 h30 => ?_)
  obtain ⟨K30, len30, I30, J30, R30⟩ := M30
  obtain ⟨c30, hk30, hqa30, hz30⟩ := c24.after hq29 h30
  show P g X 2 89 [(1, .int w25), (0, .ref a0)] [.ref q29, .int w25, .ref q16] _ _ (K30, len30, I30, J30, R30)
  obtain ⟨fl30, ka30, la30⟩ := fl24.after (by rw [ha28.2.1]; exact Nat.succ_ne_zero _) hq29 h30
  have kb30 : K30 q16 = 34 := ka30.trans ha28.2.1
  have lb30 : len30 q16 = 6 := la30.trans ha28.2.2.2
  refine r_aastore hC (ci := 0) (t := 4) (by rw [kb30]; decide) (by rw [kb30]; rfl) (by rw [kb30]; rfl) (by decide) (by rw [hk30]; rfl) rfl (by omega) (by rw [lb30]; omega) dX8_init_89 (fun R31 eR31 => ?_)
  rw [cl_of (z := w25) (n := 1) (by omega)] at eR31
  obtain ⟨c31, fl31⟩ := c30.elem (b := q16) kb30 rfl ha28.2.2.1.1 hz0q16 fl30 hk30 (by decide) eR31
  obtain ⟨w32, ew32⟩ : ∃ z : Int32, z = w25 + Int32.ofInt 1 := ⟨_, rfl⟩
  refine r_iinc hC (j := 0) (v := w32) (lv' := [(1, .int w32), (0, .ref a0)]) dX8_init_90 rfl (by rw [ew32]) (by decide) rfl ?_
  have tw32 : w32.toInt = 2 := by rw [ew32, ti_add (b := Int32.ofInt 1) (by show _ ≤ _ + (1 : Int); omega) (by show _ + (1 : Int) ≤ _; omega)]; show _ + (1 : Int) = _; omega
  refine r_goto hC (tgt := 71) dX8_init_93 (by decide) ?_
  refine r_iload_n hC dX8_init_71 0 rfl ?_
  refine r_bipush hC (v := (6)) dX8_init_72 (by decide) (by decide) (fun z33 ez33 tz33 => ?_)
  refine r_icmp_ge hC (tgt := 96) dX8_init_74 (by decide) (fun cc34 => absurd cc34 (by omega)) (fun cc34 => ?_)
  refine r_aload_n hC dX8_init_77 1 rfl ?_
  have ha35 := c31.2.2.2.1 (5, q16, 34, 6) (by simp)
  refine r_getr hC 5 (ci := 8) rfl u8_in (by decide) mT_2_83 dX8_init_78 c31.2.1 rfl rfl ha35.1 ?_
  refine r_iload_n hC dX8_init_81 0 rfl ?_
  refine r_new hC (ci := 0) (ty := tyX0) rfl u0_in tyX0_ok df0 mT_2_18 mT_2_20 mT_1_8 rfl (by decide) (by decide) dX8_init_82 (fun q36 hq36 => ?_)
  refine r_dup hC dX8_init_85 rfl ?_
  refine r_callIN hC (As := []) (rest := [.ref q36, .int w32, .ref q16]) (c_X0_init g (xL X) _ _ _ _ _ (c31.1.growO hq36 rfl) q36 (va_up_self _ _ _) (by funext j; exact z2_self _ _ _ _) (fun j => z2_self _ _ _ _)) mT_2_23 mT_1_8 nM_3 mT_2_22 rfl okX0_init ⟨by decide, by decide⟩ rfl rfl (Nat.le_of_ble_eq_true rfl) ⟨by decide, by decide⟩ dX8_init_86 (aV5 (F := fun st M => P g X 2 89 [(1, .int w32), (0, .ref a0)] st _ _ M) fun M37 h37 => ?_)
  obtain ⟨K37, len37, I37, J37, R37⟩ := M37
  obtain ⟨c37, hk37, hqa37, hz37⟩ := c31.after hq36 h37
  show P g X 2 89 [(1, .int w32), (0, .ref a0)] [.ref q36, .int w32, .ref q16] _ _ (K37, len37, I37, J37, R37)
  obtain ⟨fl37, ka37, la37⟩ := fl31.after (by rw [ha35.2.1]; exact Nat.succ_ne_zero _) hq36 h37
  have kb37 : K37 q16 = 34 := ka37.trans ha35.2.1
  have lb37 : len37 q16 = 6 := la37.trans ha35.2.2.2
  refine r_aastore hC (ci := 0) (t := 4) (by rw [kb37]; decide) (by rw [kb37]; rfl) (by rw [kb37]; rfl) (by decide) (by rw [hk37]; rfl) rfl (by omega) (by rw [lb37]; omega) dX8_init_89 (fun R38 eR38 => ?_)
  rw [cl_of (z := w32) (n := 2) (by omega)] at eR38
  obtain ⟨c38, fl38⟩ := c37.elem (b := q16) kb37 rfl ha35.2.2.1.1 hz0q16 fl37 hk37 (by decide) eR38
  obtain ⟨w39, ew39⟩ : ∃ z : Int32, z = w32 + Int32.ofInt 1 := ⟨_, rfl⟩
  refine r_iinc hC (j := 0) (v := w39) (lv' := [(1, .int w39), (0, .ref a0)]) dX8_init_90 rfl (by rw [ew39]) (by decide) rfl ?_
  have tw39 : w39.toInt = 3 := by rw [ew39, ti_add (b := Int32.ofInt 1) (by show _ ≤ _ + (1 : Int); omega) (by show _ + (1 : Int) ≤ _; omega)]; show _ + (1 : Int) = _; omega
  refine r_goto hC (tgt := 71) dX8_init_93 (by decide) ?_
  refine r_iload_n hC dX8_init_71 0 rfl ?_
  refine r_bipush hC (v := (6)) dX8_init_72 (by decide) (by decide) (fun z40 ez40 tz40 => ?_)
  refine r_icmp_ge hC (tgt := 96) dX8_init_74 (by decide) (fun cc41 => absurd cc41 (by omega)) (fun cc41 => ?_)
  refine r_aload_n hC dX8_init_77 1 rfl ?_
  have ha42 := c38.2.2.2.1 (5, q16, 34, 6) (by simp)
  refine r_getr hC 5 (ci := 8) rfl u8_in (by decide) mT_2_83 dX8_init_78 c38.2.1 rfl rfl ha42.1 ?_
  refine r_iload_n hC dX8_init_81 0 rfl ?_
  refine r_new hC (ci := 0) (ty := tyX0) rfl u0_in tyX0_ok df0 mT_2_18 mT_2_20 mT_1_8 rfl (by decide) (by decide) dX8_init_82 (fun q43 hq43 => ?_)
  refine r_dup hC dX8_init_85 rfl ?_
  refine r_callIN hC (As := []) (rest := [.ref q43, .int w39, .ref q16]) (c_X0_init g (xL X) _ _ _ _ _ (c38.1.growO hq43 rfl) q43 (va_up_self _ _ _) (by funext j; exact z2_self _ _ _ _) (fun j => z2_self _ _ _ _)) mT_2_23 mT_1_8 nM_3 mT_2_22 rfl okX0_init ⟨by decide, by decide⟩ rfl rfl (Nat.le_of_ble_eq_true rfl) ⟨by decide, by decide⟩ dX8_init_86 (aV5 (F := fun st M => P g X 2 89 [(1, .int w39), (0, .ref a0)] st _ _ M) fun M44 h44 => ?_)
  obtain ⟨K44, len44, I44, J44, R44⟩ := M44
  obtain ⟨c44, hk44, hqa44, hz44⟩ := c38.after hq43 h44
  show P g X 2 89 [(1, .int w39), (0, .ref a0)] [.ref q43, .int w39, .ref q16] _ _ (K44, len44, I44, J44, R44)
  obtain ⟨fl44, ka44, la44⟩ := fl38.after (by rw [ha42.2.1]; exact Nat.succ_ne_zero _) hq43 h44
  have kb44 : K44 q16 = 34 := ka44.trans ha42.2.1
  have lb44 : len44 q16 = 6 := la44.trans ha42.2.2.2
  refine r_aastore hC (ci := 0) (t := 4) (by rw [kb44]; decide) (by rw [kb44]; rfl) (by rw [kb44]; rfl) (by decide) (by rw [hk44]; rfl) rfl (by omega) (by rw [lb44]; omega) dX8_init_89 (fun R45 eR45 => ?_)
  rw [cl_of (z := w39) (n := 3) (by omega)] at eR45
  obtain ⟨c45, fl45⟩ := c44.elem (b := q16) kb44 rfl ha42.2.2.1.1 hz0q16 fl44 hk44 (by decide) eR45
  obtain ⟨w46, ew46⟩ : ∃ z : Int32, z = w39 + Int32.ofInt 1 := ⟨_, rfl⟩
  refine r_iinc hC (j := 0) (v := w46) (lv' := [(1, .int w46), (0, .ref a0)]) dX8_init_90 rfl (by rw [ew46]) (by decide) rfl ?_
  have tw46 : w46.toInt = 4 := by rw [ew46, ti_add (b := Int32.ofInt 1) (by show _ ≤ _ + (1 : Int); omega) (by show _ + (1 : Int) ≤ _; omega)]; show _ + (1 : Int) = _; omega
  refine r_goto hC (tgt := 71) dX8_init_93 (by decide) ?_
  refine r_iload_n hC dX8_init_71 0 rfl ?_
  refine r_bipush hC (v := (6)) dX8_init_72 (by decide) (by decide) (fun z47 ez47 tz47 => ?_)
  refine r_icmp_ge hC (tgt := 96) dX8_init_74 (by decide) (fun cc48 => absurd cc48 (by omega)) (fun cc48 => ?_)
  refine r_aload_n hC dX8_init_77 1 rfl ?_
  have ha49 := c45.2.2.2.1 (5, q16, 34, 6) (by simp)
  refine r_getr hC 5 (ci := 8) rfl u8_in (by decide) mT_2_83 dX8_init_78 c45.2.1 rfl rfl ha49.1 ?_
  refine r_iload_n hC dX8_init_81 0 rfl ?_
  refine r_new hC (ci := 0) (ty := tyX0) rfl u0_in tyX0_ok df0 mT_2_18 mT_2_20 mT_1_8 rfl (by decide) (by decide) dX8_init_82 (fun q50 hq50 => ?_)
  refine r_dup hC dX8_init_85 rfl ?_
  refine r_callIN hC (As := []) (rest := [.ref q50, .int w46, .ref q16]) (c_X0_init g (xL X) _ _ _ _ _ (c45.1.growO hq50 rfl) q50 (va_up_self _ _ _) (by funext j; exact z2_self _ _ _ _) (fun j => z2_self _ _ _ _)) mT_2_23 mT_1_8 nM_3 mT_2_22 rfl okX0_init ⟨by decide, by decide⟩ rfl rfl (Nat.le_of_ble_eq_true rfl) ⟨by decide, by decide⟩ dX8_init_86 (aV5 (F := fun st M => P g X 2 89 [(1, .int w46), (0, .ref a0)] st _ _ M) fun M51 h51 => ?_)
  obtain ⟨K51, len51, I51, J51, R51⟩ := M51
  obtain ⟨c51, hk51, hqa51, hz51⟩ := c45.after hq50 h51
  show P g X 2 89 [(1, .int w46), (0, .ref a0)] [.ref q50, .int w46, .ref q16] _ _ (K51, len51, I51, J51, R51)
  obtain ⟨fl51, ka51, la51⟩ := fl45.after (by rw [ha49.2.1]; exact Nat.succ_ne_zero _) hq50 h51
  have kb51 : K51 q16 = 34 := ka51.trans ha49.2.1
  have lb51 : len51 q16 = 6 := la51.trans ha49.2.2.2
  refine r_aastore hC (ci := 0) (t := 4) (by rw [kb51]; decide) (by rw [kb51]; rfl) (by rw [kb51]; rfl) (by decide) (by rw [hk51]; rfl) rfl (by omega) (by rw [lb51]; omega) dX8_init_89 (fun R52 eR52 => ?_)
  rw [cl_of (z := w46) (n := 4) (by omega)] at eR52
  obtain ⟨c52, fl52⟩ := c51.elem (b := q16) kb51 rfl ha49.2.2.1.1 hz0q16 fl51 hk51 (by decide) eR52
  obtain ⟨w53, ew53⟩ : ∃ z : Int32, z = w46 + Int32.ofInt 1 := ⟨_, rfl⟩
  refine r_iinc hC (j := 0) (v := w53) (lv' := [(1, .int w53), (0, .ref a0)]) dX8_init_90 rfl (by rw [ew53]) (by decide) rfl ?_
  have tw53 : w53.toInt = 5 := by rw [ew53, ti_add (b := Int32.ofInt 1) (by show _ ≤ _ + (1 : Int); omega) (by show _ + (1 : Int) ≤ _; omega)]; show _ + (1 : Int) = _; omega
  refine r_goto hC (tgt := 71) dX8_init_93 (by decide) ?_
  refine r_iload_n hC dX8_init_71 0 rfl ?_
  refine r_bipush hC (v := (6)) dX8_init_72 (by decide) (by decide) (fun z54 ez54 tz54 => ?_)
  refine r_icmp_ge hC (tgt := 96) dX8_init_74 (by decide) (fun cc55 => absurd cc55 (by omega)) (fun cc55 => ?_)
  refine r_aload_n hC dX8_init_77 1 rfl ?_
  have ha56 := c52.2.2.2.1 (5, q16, 34, 6) (by simp)
  refine r_getr hC 5 (ci := 8) rfl u8_in (by decide) mT_2_83 dX8_init_78 c52.2.1 rfl rfl ha56.1 ?_
  refine r_iload_n hC dX8_init_81 0 rfl ?_
  refine r_new hC (ci := 0) (ty := tyX0) rfl u0_in tyX0_ok df0 mT_2_18 mT_2_20 mT_1_8 rfl (by decide) (by decide) dX8_init_82 (fun q57 hq57 => ?_)
  refine r_dup hC dX8_init_85 rfl ?_
  refine r_callIN hC (As := []) (rest := [.ref q57, .int w53, .ref q16]) (c_X0_init g (xL X) _ _ _ _ _ (c52.1.growO hq57 rfl) q57 (va_up_self _ _ _) (by funext j; exact z2_self _ _ _ _) (fun j => z2_self _ _ _ _)) mT_2_23 mT_1_8 nM_3 mT_2_22 rfl okX0_init ⟨by decide, by decide⟩ rfl rfl (Nat.le_of_ble_eq_true rfl) ⟨by decide, by decide⟩ dX8_init_86 (aV5 (F := fun st M => P g X 2 89 [(1, .int w53), (0, .ref a0)] st _ _ M) fun M58 h58 => ?_)
  obtain ⟨K58, len58, I58, J58, R58⟩ := M58
  obtain ⟨c58, hk58, hqa58, hz58⟩ := c52.after hq57 h58
  show P g X 2 89 [(1, .int w53), (0, .ref a0)] [.ref q57, .int w53, .ref q16] _ _ (K58, len58, I58, J58, R58)
  obtain ⟨fl58, ka58, la58⟩ := fl52.after (by rw [ha56.2.1]; exact Nat.succ_ne_zero _) hq57 h58
  have kb58 : K58 q16 = 34 := ka58.trans ha56.2.1
  have lb58 : len58 q16 = 6 := la58.trans ha56.2.2.2
  refine r_aastore hC (ci := 0) (t := 4) (by rw [kb58]; decide) (by rw [kb58]; rfl) (by rw [kb58]; rfl) (by decide) (by rw [hk58]; rfl) rfl (by omega) (by rw [lb58]; omega) dX8_init_89 (fun R59 eR59 => ?_)
  rw [cl_of (z := w53) (n := 5) (by omega)] at eR59
  obtain ⟨c59, fl59⟩ := c58.elem (b := q16) kb58 rfl ha56.2.2.1.1 hz0q16 fl58 hk58 (by decide) eR59
  obtain ⟨w60, ew60⟩ : ∃ z : Int32, z = w53 + Int32.ofInt 1 := ⟨_, rfl⟩
  refine r_iinc hC (j := 0) (v := w60) (lv' := [(1, .int w60), (0, .ref a0)]) dX8_init_90 rfl (by rw [ew60]) (by decide) rfl ?_
  have tw60 : w60.toInt = 6 := by rw [ew60, ti_add (b := Int32.ofInt 1) (by show _ ≤ _ + (1 : Int); omega) (by show _ + (1 : Int) ≤ _; omega)]; show _ + (1 : Int) = _; omega
  refine r_goto hC (tgt := 71) dX8_init_93 (by decide) ?_
  refine r_iload_n hC dX8_init_71 0 rfl ?_
  refine r_bipush hC (v := (6)) dX8_init_72 (by decide) (by decide) (fun z61 ez61 tz61 => ?_)
  refine r_icmp_ge hC (tgt := 96) dX8_init_74 (by decide) (fun cc62 => ?_) (fun cc62 => absurd cc62 (by omega))
  refine r_sealA (q := q16) (t := 4) (by decide) (c59.2.2.2.1 (5, q16, 34, 6) (by simp)).2.1 ?_
  have c63 := c59.full (n := 4) (by decide) fl59 hz0q16 (by simp)
  generalize va_up K58 q16 44 = K63 at c63 ⊢
  refine r_aload_n hC dX8_init_96 1 rfl ?_
  refine r_bipush hC (v := (6)) dX8_init_97 (by decide) (by decide) (fun z64 ez64 tz64 => ?_)
  refine r_newarray hC (atype := .boolean) (ty := .boolean) (kd := 43) (t := 3) (N := 6) rfl mT_2_77 rfl rfl rfl (by decide) (fun _ h => h) (6, arE 3 (K63, len58, fun _ _ => 0, fun _ _ => 0, fun _ _ => none) 0) rfl (ha_3 6 _ _) (nlt_0 (by omega)) (cl_of (by omega)) (by decide) (by decide) (by decide) dX8_init_99 (fun q65 hq65 => ?_)
  refine r_putrF hC 6 (ci := 8) hNm rfl u8_in tyX8_ok nmX8 (by decide) mT_2_84 rfl rfl rfl rfl dX8_init_101 (c63.kq hq65) rfl rfl (fun R65 eR65 => ?_)
  have c65 := c63.row (n := 6) (kd := 43) (k := 6) (by decide) hq65 rfl (by simp) eR65
  generalize va_up K63 q65 (43) = K65 at c65 ⊢
  generalize va_up len58 q65 6 = len65 at c65 ⊢
  generalize z2 I58 q65 0 = I65 at c65 ⊢
  generalize z2 J58 q65 0 = J65
  refine r_aload_n hC dX8_init_104 1 rfl ?_
  refine r_bipush hC (v := (60)) dX8_init_105 (by decide) (by decide) (fun z66 ez66 tz66 => ?_)
  refine r_newarray hC (atype := .int) (ty := .int) (kd := 41) (t := 1) (N := 60) rfl mT_1_152 rfl rfl rfl (by decide) (fun _ h => h) (60, arE 1 (K65, len65, fun _ _ => 0, fun _ _ => 0, fun _ _ => none) 0) rfl (ha_1 60 _ _) (nlt_0 (by omega)) (cl_of (by omega)) (by decide) (by decide) (by decide) dX8_init_107 (fun q67 hq67 => ?_)
  refine r_putrF hC 7 (ci := 8) hNm rfl u8_in tyX8_ok nmX8 (by decide) mT_2_85 rfl rfl rfl rfl dX8_init_109 (c65.kq hq67) rfl rfl (fun R67 eR67 => ?_)
  have c67 := c65.row (n := 60) (kd := 41) (k := 7) (by decide) hq67 rfl (by simp) eR67
  generalize va_up K65 q67 (41) = K67 at c67 ⊢
  generalize va_up len65 q67 60 = len67 at c67 ⊢
  generalize z2 I65 q67 0 = I67 at c67 ⊢
  generalize z2 J65 q67 0 = J67
  refine r_aload_n hC dX8_init_112 1 rfl ?_
  refine r_new hC (ci := 0) (ty := tyX0) rfl u0_in tyX0_ok df0 mT_2_18 mT_2_20 mT_1_8 rfl (by decide) (by decide) dX8_init_113 (fun q68 hq68 => ?_)
  refine r_dup hC dX8_init_116 rfl ?_
  refine r_callIN hC (As := []) (rest := [.ref q68, .ref a0]) (c_X0_init g (xL X) _ _ _ _ _ (c67.1.growO hq68 rfl) q68 (va_up_self _ _ _) (by funext j; exact z2_self _ _ _ _) (fun j => z2_self _ _ _ _)) mT_2_23 mT_1_8 nM_3 mT_2_22 rfl okX0_init ⟨by decide, by decide⟩ rfl rfl (Nat.le_of_ble_eq_true rfl) ⟨by decide, by decide⟩ dX8_init_117 (aV5 (F := fun st M => P g X 2 120 [(1, .int w60), (0, .ref a0)] st _ _ M) fun M69 h69 => ?_)
  obtain ⟨K69, len69, I69, J69, R69⟩ := M69
  obtain ⟨c69, hk69, hqa69, hz69⟩ := c67.after hq68 h69
  show P g X 2 120 [(1, .int w60), (0, .ref a0)] [.ref q68, .ref a0] _ _ (K69, len69, I69, J69, R69)
  refine r_putrF hC 8 (ci := 8) hNm rfl u8_in tyX8_ok nmX8 (by decide) mT_2_86 rfl rfl rfl rfl dX8_init_120 (c69.2.1) rfl rfl (fun R70 eR70 => ?_)
  have c70 := c69.old (n := len69 q68) (by decide) hk69 rfl (by decide) hqa69 (by simp) eR70
  refine r_aload_n hC dX8_init_123 1 rfl ?_
  refine r_new hC (ci := 3) (ty := tyX3) rfl u3_in tyX3_ok df3 mT_2_54 mT_2_55 mT_1_9 rfl (by decide) (by decide) dX8_init_124 (fun q71 hq71 => ?_)
  refine r_dup hC dX8_init_127 rfl ?_
  refine r_callIN hC (As := []) (rest := [.ref q71, .ref a0]) (c_X3_init g (xL X) _ _ _ _ _ (c70.1.growO hq71 rfl) q71 (va_up_self _ _ _) (by funext j; exact z2_self _ _ _ _) (fun j => z2_self _ _ _ _)) mT_2_58 mT_1_9 nM_4 mT_2_57 rfl okX3_init ⟨by decide, by decide⟩ rfl rfl (Nat.le_of_ble_eq_true rfl) ⟨by decide, by decide⟩ dX8_init_128 (aV5 (F := fun st M => P g X 2 131 [(1, .int w60), (0, .ref a0)] st _ _ M) fun M72 h72 => ?_)
  obtain ⟨K72, len72, I72, J72, R72⟩ := M72
  obtain ⟨c72, hk72, hqa72, hz72⟩ := c70.after hq71 h72
  show P g X 2 131 [(1, .int w60), (0, .ref a0)] [.ref q71, .ref a0] _ _ (K72, len72, I72, J72, R72)
  refine r_putrF hC 9 (ci := 8) hNm rfl u8_in tyX8_ok nmX8 (by decide) mT_2_87 rfl rfl rfl rfl dX8_init_131 (c72.2.1) rfl rfl (fun R73 eR73 => ?_)
  have c73 := c72.old (n := len72 q71) (by decide) hk72 rfl (by decide) hqa72 (by simp) eR73
  refine r_aload_n hC dX8_init_134 1 rfl ?_
  refine r_bipush hC (v := (6)) dX8_init_135 (by decide) (by decide) (fun z74 ez74 tz74 => ?_)
  refine r_newarray hC (atype := .int) (ty := .int) (kd := 41) (t := 1) (N := 6) rfl mT_1_152 rfl rfl rfl (by decide) (fun _ h => h) (6, arE 1 (K72, len72, fun _ _ => 0, fun _ _ => 0, fun _ _ => none) 0) rfl (ha_1 6 _ _) (nlt_0 (by omega)) (cl_of (by omega)) (by decide) (by decide) (by decide) dX8_init_137 (fun q75 hq75 => ?_)
  refine r_putrF hC 10 (ci := 8) hNm rfl u8_in tyX8_ok nmX8 (by decide) mT_2_88 rfl rfl rfl rfl dX8_init_139 (c73.kq hq75) rfl rfl (fun R75 eR75 => ?_)
  have c75 := c73.row (n := 6) (kd := 41) (k := 10) (by decide) hq75 rfl (by simp) eR75
  generalize va_up K72 q75 (41) = K75 at c75 ⊢
  generalize va_up len72 q75 6 = len75 at c75 ⊢
  generalize z2 I72 q75 0 = I75 at c75 ⊢
  generalize z2 J72 q75 0 = J75
  refine r_aload_n hC dX8_init_142 1 rfl ?_
  refine r_bipush hC (v := (6)) dX8_init_143 (by decide) (by decide) (fun z76 ez76 tz76 => ?_)
  refine r_newarray hC (atype := .int) (ty := .int) (kd := 41) (t := 1) (N := 6) rfl mT_1_152 rfl rfl rfl (by decide) (fun _ h => h) (6, arE 1 (K75, len75, fun _ _ => 0, fun _ _ => 0, fun _ _ => none) 0) rfl (ha_1 6 _ _) (nlt_0 (by omega)) (cl_of (by omega)) (by decide) (by decide) (by decide) dX8_init_145 (fun q77 hq77 => ?_)
  refine r_putrF hC 11 (ci := 8) hNm rfl u8_in tyX8_ok nmX8 (by decide) mT_2_89 rfl rfl rfl rfl dX8_init_147 (c75.kq hq77) rfl rfl (fun R77 eR77 => ?_)
  have c77 := c75.row (n := 6) (kd := 41) (k := 11) (by decide) hq77 rfl (by simp) eR77
  generalize va_up K75 q77 (41) = K77 at c77 ⊢
  generalize va_up len75 q77 6 = len77 at c77 ⊢
  generalize z2 I75 q77 0 = I77 at c77 ⊢
  generalize z2 J75 q77 0 = J77
  refine r_aload_n hC dX8_init_150 1 rfl ?_
  refine r_iconst hC (v := (0)) dX8_init_151 (by decide) (by decide) (fun z78 ez78 tz78 => ?_)
  refine r_puti hC 12 (ci := 8) rfl u8_in tyX8_ok nmX8 (by decide) mT_2_90 rfl rfl rfl dX8_init_152 c77.2.1 rfl rfl (fun I79 eI79 => ?_)
  rw [ez78] at eI79
  have c79 := c77.num (by decide) eI79
  refine r_seal (q := a0) (ci := 8) c79.2.1 rfl rfl ?_
  have md80 := c79.made (J := J77) (by decide) (by simp [refT]) (rz8) (fun z => absurd z (by decide)) (fun z => absurd z (by decide)) (fun z => absurd z (by decide))
  have htp := c79.2.2.2.1 (0, q1, 6, len2 q1) (by simp)
  have old := c79.2.2.2.2.2 q1 (by rw [tpk]; exact Nat.succ_ne_zero _) htp.2.2.1.1
  exact r_vret hC hQ hlk hr (by decide) (by decide) dX8_init_155 ⟨rfl, cB.madeT md80, q1, htp.1, by show I79 q1 1 = 0; rw [congrFun old.2.2.1 1]; exact tpz, by show va_up K77 a0 (1 + 8) q1 = 6; rw [va_up_ne _ _ htp.2.2.1.1]; exact htp.2.1⟩
