def Born (a T te tk h lk s ls rd : Nat) (K : Nat → Nat) (I : Nat → Nat → Int32) (R : Nat → Nat → Option Nat) : Prop := R a 0 = some T ∧ R a 1 = some te ∧ R a 2 = some h ∧ R a 3 = some s ∧ R a 9 = some rd ∧ R te 0 = some tk ∧ R tk 0 = some T ∧ R h 0 = some lk ∧ R s 0 = some ls ∧ K T = 6 ∧ K te = 7 ∧ K tk = 8 ∧ K h = 2 ∧ K lk = 3 ∧ K s = 2 ∧ K ls = 3 ∧ K rd = 4 ∧ (I T = fun _ => 0) ∧ (I te = fun _ => 0) ∧ (I h = fun _ => 0) ∧ (I lk = fun _ => 0) ∧ (I rd = fun _ => 0) ∧ h ≠ s ∧ lk ≠ ls
theorem ha_0 (N : Nat) (K len : Nat → Nat) (cA : ClassId) : vp_cell cA (N, arE 0 (K, len, fun _ _ => 0, fun _ _ => 0, fun _ _ => none) 0) = arrV cA N (fun _ => defaultValue .byte) := rfl
theorem ha_1 (N : Nat) (K len : Nat → Nat) (cA : ClassId) : vp_cell cA (N, arE 1 (K, len, fun _ _ => 0, fun _ _ => 0, fun _ _ => none) 0) = arrV cA N (fun _ => defaultValue .int) := rfl
theorem ha_2 (N : Nat) (K len : Nat → Nat) (cA : ClassId) : vp_cell cA (N, arE 2 (K, len, fun _ _ => 0, fun _ _ => 0, fun _ _ => none) 0) = arrV cA N (fun _ => defaultValue .long) := rfl
theorem ha_3 (N : Nat) (K len : Nat → Nat) (cA : ClassId) : vp_cell cA (N, arE 3 (K, len, fun _ _ => 0, fun _ _ => 0, fun _ _ => none) 0) = arrV cA N (fun _ => defaultValue .boolean) := rfl
theorem pk_big {q : Nat} (h : 1000 ≤ q) : pk q = true := by unfold pk; simp only [Bool.or_eq_true, Nat.ble_eq]; exact Or.inr (by omega)
theorem kup {K : Nat → Nat} {q kd b x : Nat} (hq : K q = 0) (hb : K b = x) (hx : x ≠ 0) : va_up K q kd b = x := by rw [va_up_ne _ _ (fun z => hx (by rw [← hb, z, hq]))]; exact hb
theorem Con.fresh {K0 len0 : Nat → Nat} {I0 : Nat → Nat → Int32} {R0 : Nat → Nat → Option Nat} {a ci : Nat} {Z : Nat → Int32} {F : List (Nat × Nat × Nat × Nat)} {K len : Nat → Nat} {I : Nat → Nat → Int32} {R : Nat → Nat → Option Nat} {q : Nat} (c : Con K0 len0 I0 R0 a ci Z F K len I R) (hq : K q = 0) : K0 q = 0 := by
  apply Classical.byContradiction
  intro h
  have := (c.2.2.2.2.2 q h (fun z => c.ne0 (by rw [← z]; exact hq))).1
  rw [hq] at this; exact h this.symm
theorem Con.perm {K0 len0 : Nat → Nat} {I0 : Nat → Nat → Int32} {R0 : Nat → Nat → Option Nat} {a ci : Nat} {Z : Nat → Int32} {F F' : List (Nat × Nat × Nat × Nat)} {K len : Nat → Nat} {I : Nat → Nat → Int32} {R : Nat → Nat → Option Nat} (c : Con K0 len0 I0 R0 a ci Z F K len I R) (h1 : ∀ e ∈ F', e ∈ F) (h2 : ∀ e ∈ F, e ∈ F') : Con K0 len0 I0 R0 a ci Z F' K len I R := ⟨c.1, c.2.1, c.2.2.1, fun e he => c.2.2.2.1 e (h1 e he), fun k hk => c.2.2.2.2.1 k (fun e he => hk e (h2 e he)), c.2.2.2.2.2⟩
theorem Con.rebase {K0 len0 : Nat → Nat} {I0 : Nat → Nat → Int32} {R0 : Nat → Nat → Option Nat} {a ci : Nat} {Z : Nat → Int32} {F : List (Nat × Nat × Nat × Nat)} {K len : Nat → Nat} {I : Nat → Nat → Int32} {R : Nat → Nat → Option Nat} (c : Con K0 len0 I0 R0 a ci Z F K len I R) : Con K len I R a ci Z F K len I R := ⟨c.1, c.2.1, c.2.2.1, c.2.2.2.1, c.2.2.2.2.1, fun _ _ _ => ⟨rfl, rfl, rfl, rfl⟩⟩
theorem Con.madeT {K0 len0 : Nat → Nat} {I0 : Nat → Nat → Int32} {R0 : Nat → Nat → Option Nat} {a ci : Nat} {Z Z' : Nat → Int32} {F : List (Nat × Nat × Nat × Nat)} {K len : Nat → Nat} {I : Nat → Nat → Int32} {R : Nat → Nat → Option Nat} {M : MM} (c : Con K0 len0 I0 R0 a ci Z F K len I R) (h : Made K len I R a ci Z' M) : Made K0 len0 I0 R0 a ci Z' M := by
  refine ⟨h.1, h.2.1, h.2.2.1, fun b hb hba => ?_⟩
  obtain ⟨h1, h2, h3, h4⟩ := c.2.2.2.2.2 b hb hba
  obtain ⟨g1, g2, g3, g4⟩ := h.2.2.2 b (by rw [h1]; exact hb) hba
  exact ⟨g1.trans h1, g2.trans h2, g3.trans h3, g4.trans h4⟩
theorem rz_all (q : Nat) : ∀ k lo hi, rngI q k = some (lo, hi) → lo ≤ (0 : Int) ∧ (0 : Int) ≤ hi := by
  intro k lo hi; unfold rngI; split <;> intro h <;> first | (cases h; exact ⟨by decide, by decide⟩) | cases h
theorem df0 : ∀ j, j < 7 → defaultValue (tyX0 j) = dfl 0 j := by decide +kernel
theorem rz0 : ∀ k lo hi, rngI (1 + 0) k = some (lo, hi) → lo ≤ ((fun _ => 0 : Nat → Int32) k).toInt ∧ ((fun _ => 0 : Nat → Int32) k).toInt ≤ hi := rz_all _
theorem df1 : ∀ j, j < 15 → defaultValue (tyX1 j) = dfl 1 j := by decide +kernel
theorem rz1 : ∀ k lo hi, rngI (1 + 1) k = some (lo, hi) → lo ≤ ((fun _ => 0 : Nat → Int32) k).toInt ∧ ((fun _ => 0 : Nat → Int32) k).toInt ≤ hi := rz_all _
theorem df2 : ∀ j, j < 8 → defaultValue (tyX2 j) = dfl 2 j := by decide +kernel
theorem rz2 : ∀ k lo hi, rngI (1 + 2) k = some (lo, hi) → lo ≤ ((fun _ => 0 : Nat → Int32) k).toInt ∧ ((fun _ => 0 : Nat → Int32) k).toInt ≤ hi := rz_all _
theorem df3 : ∀ j, j < 5 → defaultValue (tyX3 j) = dfl 3 j := by decide +kernel
theorem rz3 : ∀ k lo hi, rngI (1 + 3) k = some (lo, hi) → lo ≤ ((fun _ => 0 : Nat → Int32) k).toInt ∧ ((fun _ => 0 : Nat → Int32) k).toInt ≤ hi := rz_all _
theorem df4 : ∀ j, j < 4 → defaultValue (tyX4 j) = dfl 4 j := by decide +kernel
theorem rz4 : ∀ k lo hi, rngI (1 + 4) k = some (lo, hi) → lo ≤ ((fun _ => 0 : Nat → Int32) k).toInt ∧ ((fun _ => 0 : Nat → Int32) k).toInt ≤ hi := rz_all _
theorem df5 : ∀ j, j < 2 → defaultValue (tyX5 j) = dfl 5 j := by decide +kernel
theorem rz5 : ∀ k lo hi, rngI (1 + 5) k = some (lo, hi) → lo ≤ ((fun _ => 0 : Nat → Int32) k).toInt ∧ ((fun _ => 0 : Nat → Int32) k).toInt ≤ hi := rz_all _
theorem df6 : ∀ j, j < 7 → defaultValue (tyX6 j) = dfl 6 j := by decide +kernel
theorem rz6 : ∀ k lo hi, rngI (1 + 6) k = some (lo, hi) → lo ≤ ((fun _ => 0 : Nat → Int32) k).toInt ∧ ((fun _ => 0 : Nat → Int32) k).toInt ≤ hi := rz_all _
theorem df7 : ∀ j, j < 6 → defaultValue (tyX7 j) = dfl 7 j := by decide +kernel
theorem rz7 : ∀ k lo hi, rngI (1 + 7) k = some (lo, hi) → lo ≤ ((fun _ => 0 : Nat → Int32) k).toInt ∧ ((fun _ => 0 : Nat → Int32) k).toInt ≤ hi := rz_all _
theorem df8 : ∀ j, j < 13 → defaultValue (tyX8 j) = dfl 8 j := by decide +kernel
theorem rz8 : ∀ k lo hi, rngI (1 + 8) k = some (lo, hi) → lo ≤ ((va_up (fun _ => 0) 12 0) k : Int32).toInt ∧ ((va_up (fun _ => 0) 12 0) k : Int32).toInt ≤ hi := by
  intro k lo hi h
  by_cases hk : k = 12
  · subst hk; cases h
  · rw [va_up_ne _ _ hk]; exact rz_all _ k lo hi h
theorem df9 : ∀ j, j < 28 → defaultValue (tyX9 j) = dfl 9 j := by decide +kernel
theorem rz9 : ∀ k lo hi, rngI (1 + 9) k = some (lo, hi) → lo ≤ ((va_up (fun _ => 0) 0 (-1)) k : Int32).toInt ∧ ((va_up (fun _ => 0) 0 (-1)) k : Int32).toInt ≤ hi := by
  intro k lo hi h
  by_cases hk : k = 0
  · subst hk; cases h
  · rw [va_up_ne _ _ hk]; exact rz_all _ k lo hi h
theorem df10 : ∀ j, j < 26 → defaultValue (tyX10 j) = dfl 10 j := by decide +kernel
theorem rz10 : ∀ k lo hi, rngI (1 + 10) k = some (lo, hi) → lo ≤ ((va_up (fun _ => 0) 2 (-1)) k : Int32).toInt ∧ ((va_up (fun _ => 0) 2 (-1)) k : Int32).toInt ≤ hi := by
  intro k lo hi h
  by_cases hk : k = 2
  · subst hk; cases h
  · rw [va_up_ne _ _ hk]; exact rz_all _ k lo hi h
abbrev rmX4_init : Room := { frames := 1, cells := 0, slots := 0, locals := 20 }
set_option maxHeartbeats 4000000 in
set_option maxRecDepth 100000 in
theorem c_X4_init (g : GG) (l : Launch) (K len : Nat → Nat) (I : Nat → Nat → Int32) (J : Nat → Nat → Int64) (R : Nat → Nat → Option Nat) (hs : Sf K len I R) (a0 : Nat) (ka0 : K a0 = 21 + 4) (hz : I a0 = fun _ => 0) (hn : ∀ k, R a0 k = none) (hu : UU K R) (hun : UN R a0) : Ct g l yX4_init cX4_init 1 none rmX4_init [.ref a0] (K, len, I, J, R) (pV5 (fun M' => (Made K len I R a0 4 (fun _ => 0) M') ∧ Own K R a0 M')) := by
  refine Ct_intro (by decide +kernel) (Nat.le_of_ble_eq_true rfl) (fun X hC hL hKK hNm hr hlk hQ => ?_)
  subst hL
  have hC : Cx g X cX4_init "HillTap$Story" 1 rmX4_init := hC
  show P g X 1 0 [(0, .ref a0)] [] 0 0 (K, len, I, J, R)
  have c0 : Con K len I R a0 4 (fun _ => 0) [] K len I R := Con.start hs ka0 hz hn
  have mo0 : ∀ y, K y ≠ 0 → K y = K y := fun _ _ => rfl
  have uk0 : ∀ y, K y ≠ 0 → K y ≠ 6 → UN R y → UN R y := fun _ _ _ h => h
  refine r_aload_n hC dX4_init_0 0 rfl ?_
  refine r_objInit hC mT_1_159 mT_1_28 mT_1_29 dX4_init_1 (by decide) (by decide) ?_
  refine r_seal (q := a0) (ci := 4) c0.2.1 rfl rfl ?_
  have md1 := c0.made (J := J) (by decide) (by simp [refT]) (rz4) (fun z => absurd z (by decide)) (fun z => absurd z (by decide)) (fun z => absurd z (by decide))
  exact r_vret hC hQ hlk hr (by decide) (by decide) dX4_init_4 ⟨rfl, md1, UU.seal (v := 1 + 4) hu (by rw [c0.2.1]; decide) (by decide), hun, uk0⟩
abbrev rmX5_init : Room := { frames := 1, cells := 1, slots := 900, locals := 20 }
set_option maxHeartbeats 4000000 in
set_option maxRecDepth 100000 in
theorem c_X5_init (g : GG) (l : Launch) (K len : Nat → Nat) (I : Nat → Nat → Int32) (J : Nat → Nat → Int64) (R : Nat → Nat → Option Nat) (hs : Sf K len I R) (a0 : Nat) (ka0 : K a0 = 21 + 5) (hz : I a0 = fun _ => 0) (hn : ∀ k, R a0 k = none) (hu : UU K R) (hun : UN R a0) : Ct g l yX5_init cX5_init 1 none rmX5_init [.ref a0] (K, len, I, J, R) (pV5 (fun M' => (Made K len I R a0 5 (fun _ => 0) M') ∧ Own K R a0 M')) := by
  refine Ct_intro (by decide +kernel) (Nat.le_of_ble_eq_true rfl) (fun X hC hL hKK hNm hr hlk hQ => ?_)
  subst hL
  have hC : Cx g X cX5_init "HillTap$Tape" 1 rmX5_init := hC
  show P g X 1 0 [(0, .ref a0)] [] 0 0 (K, len, I, J, R)
  have c0 : Con K len I R a0 5 (fun _ => 0) [] K len I R := Con.start hs ka0 hz hn
  have mo0 : ∀ y, K y ≠ 0 → K y = K y := fun _ _ => rfl
  have uk0 : ∀ y, K y ≠ 0 → K y ≠ 6 → UN R y → UN R y := fun _ _ _ h => h
  refine r_aload_n hC dX5_init_0 0 rfl ?_
  refine r_objInit hC mT_1_35 mT_1_28 mT_1_29 dX5_init_1 (by decide) (by decide) ?_
  refine r_aload_n hC dX5_init_4 0 rfl ?_
  refine r_sipush hC (v := (900)) dX5_init_5 (by decide) (by decide) (fun z1 ez1 tz1 => ?_)
  refine r_newarray hC (atype := .byte) (ty := .byte) (kd := 40) (t := 0) (N := 900) rfl mT_1_46 rfl rfl rfl (by decide) (fun _ h => h) (900, arE 0 (K, len, fun _ _ => 0, fun _ _ => 0, fun _ _ => none) 0) rfl (ha_0 900 _ _) (nlt_0 (by omega)) (cl_of (by omega)) (by decide) (by decide) (by decide) dX5_init_8 (fun q2 hq2 => ?_)
  refine r_putrF hC 0 (ci := 5) hNm rfl u5_in tyX5_ok nmX5 (by decide) mT_1_36 rfl rfl rfl rfl dX5_init_10 (c0.kq hq2) rfl rfl (fun R2 eR2 => ?_)
  have u2 := (UU.new (kd := 40) hu hq2 (by first | decide | omega)).put (Or.inl (UN.fresh hu hq2)) (by rw [va_up_self]; first | decide | omega) eR2
  have un2 := (UN.new hun).put (fun z => c0.ne0 (by rw [← z]; exact hq2)) eR2
  have mo2 : ∀ y, K y ≠ 0 → va_up K q2 (40) y = K y := fun y hy => kupy hq2 (mo0 y hy) hy
  have uk2 : ∀ y, K y ≠ 0 → K y ≠ 6 → UN R y → UN R2 y := fun y y1 y2 y3 => (UN.new (uk0 y y1 y2 y3)).put (fun z => y1 (by rw [← mo0 y y1, ← z]; exact hq2)) eR2
  have ar2 : K q2 = 0 := Classical.byContradiction fun z => z (by rw [← mo0 q2 z]; exact hq2)
  have c2 := c0.row (n := 900) (kd := 40) (k := 0) (by decide) hq2 rfl (by simp) eR2
  generalize va_up K q2 (40) = K2 at c2 u2 mo2 ⊢
  generalize va_up len q2 900 = len2 at c2 ⊢
  generalize z2 I q2 0 = I2 at c2 ⊢
  generalize z2 J q2 0 = J2
  refine r_seal (q := a0) (ci := 5) c2.2.1 rfl rfl ?_
  have md3 := c2.made (J := J2) (by decide) (by simp [refT]) (rz5) (fun z => absurd z (by decide)) (fun z => absurd z (by decide)) (fun z => absurd z (by decide))
  exact r_vret hC hQ hlk hr (by decide) (by decide) dX5_init_13 ⟨rfl, md3, UU.seal (v := 1 + 5) u2 (by rw [c2.2.1]; decide) (by decide), un2, uk2⟩
abbrev rmX2_init : Room := { frames := 1, cells := 2, slots := 32, locals := 20 }
set_option maxHeartbeats 4000000 in
set_option maxRecDepth 100000 in
theorem c_X2_init (g : GG) (l : Launch) (K len : Nat → Nat) (I : Nat → Nat → Int32) (J : Nat → Nat → Int64) (R : Nat → Nat → Option Nat) (hs : Sf K len I R) (a0 : Nat) (ka0 : K a0 = 21 + 2) (hz : I a0 = fun _ => 0) (hn : ∀ k, R a0 k = none) (hu : UU K R) (hun : UN R a0) : Ct g l yX2_init cX2_init 1 none rmX2_init [.ref a0] (K, len, I, J, R) (pV5 (fun M' => (Made K len I R a0 2 (fun _ => 0) M') ∧ Own K R a0 M')) := by
  refine Ct_intro (by decide +kernel) (Nat.le_of_ble_eq_true rfl) (fun X hC hL hKK hNm hr hlk hQ => ?_)
  subst hL
  have hC : Cx g X cX2_init "HillTap$Lake" 1 rmX2_init := hC
  show P g X 1 0 [(0, .ref a0)] [] 0 0 (K, len, I, J, R)
  have c0 : Con K len I R a0 2 (fun _ => 0) [] K len I R := Con.start hs ka0 hz hn
  have mo0 : ∀ y, K y ≠ 0 → K y = K y := fun _ _ => rfl
  have uk0 : ∀ y, K y ≠ 0 → K y ≠ 6 → UN R y → UN R y := fun _ _ _ h => h
  refine r_aload_n hC dX2_init_0 0 rfl ?_
  refine r_objInit hC mT_1_116 mT_1_28 mT_1_29 dX2_init_1 (by decide) (by decide) ?_
  refine r_aload_n hC dX2_init_4 0 rfl ?_
  refine r_bipush hC (v := (16)) dX2_init_5 (by decide) (by decide) (fun z1 ez1 tz1 => ?_)
  refine r_newarray hC (atype := .int) (ty := .int) (kd := 63) (t := 1) (N := 16) rfl mT_1_152 rfl rfl rfl (by decide) (fun _ h => h) (16, arE 1 (K, len, fun _ _ => 0, fun _ _ => 0, fun _ _ => none) 0) rfl (ha_1 16 _ _) (nlt_0 (by omega)) (cl_of (by omega)) (by decide) (by decide) (by decide) dX2_init_7 (fun q2 hq2 => ?_)
  refine r_putrF hC 6 (ci := 2) hNm rfl u2_in tyX2_ok nmX2 (by decide) mT_1_133 rfl rfl rfl rfl dX2_init_9 (c0.kq hq2) rfl rfl (fun R2 eR2 => ?_)
  have u2 := (UU.new (kd := 63) hu hq2 (by first | decide | omega)).put (Or.inl (UN.fresh hu hq2)) (by rw [va_up_self]; first | decide | omega) eR2
  have un2 := (UN.new hun).put (fun z => c0.ne0 (by rw [← z]; exact hq2)) eR2
  have mo2 : ∀ y, K y ≠ 0 → va_up K q2 (63) y = K y := fun y hy => kupy hq2 (mo0 y hy) hy
  have uk2 : ∀ y, K y ≠ 0 → K y ≠ 6 → UN R y → UN R2 y := fun y y1 y2 y3 => (UN.new (uk0 y y1 y2 y3)).put (fun z => y1 (by rw [← mo0 y y1, ← z]; exact hq2)) eR2
  have ar2 : K q2 = 0 := Classical.byContradiction fun z => z (by rw [← mo0 q2 z]; exact hq2)
  have c2 := c0.row (n := 16) (kd := 63) (k := 6) (by decide) hq2 rfl (by simp) eR2
  generalize va_up K q2 (63) = K2 at c2 u2 mo2 ⊢
  generalize va_up len q2 16 = len2 at c2 ⊢
  generalize z2 I q2 0 = I2 at c2 ⊢
  generalize z2 J q2 0 = J2
  refine r_aload_n hC dX2_init_12 0 rfl ?_
  refine r_bipush hC (v := (16)) dX2_init_13 (by decide) (by decide) (fun z3 ez3 tz3 => ?_)
  refine r_newarray hC (atype := .int) (ty := .int) (kd := 64) (t := 1) (N := 16) rfl mT_1_152 rfl rfl rfl (by decide) (fun _ h => h) (16, arE 1 (K2, len2, fun _ _ => 0, fun _ _ => 0, fun _ _ => none) 0) rfl (ha_1 16 _ _) (nlt_0 (by omega)) (cl_of (by omega)) (by decide) (by decide) (by decide) dX2_init_15 (fun q4 hq4 => ?_)
  refine r_putrF hC 7 (ci := 2) hNm rfl u2_in tyX2_ok nmX2 (by decide) mT_1_134 rfl rfl rfl rfl dX2_init_17 (c2.kq hq4) rfl rfl (fun R4 eR4 => ?_)
  have u4 := (UU.new (kd := 64) u2 hq4 (by first | decide | omega)).put (Or.inl (UN.fresh u2 hq4)) (by rw [va_up_self]; first | decide | omega) eR4
  have un4 := (UN.new un2).put (fun z => c2.ne0 (by rw [← z]; exact hq4)) eR4
  have mo4 : ∀ y, K y ≠ 0 → va_up K2 q4 (64) y = K y := fun y hy => kupy hq4 (mo2 y hy) hy
  have uk4 : ∀ y, K y ≠ 0 → K y ≠ 6 → UN R y → UN R4 y := fun y y1 y2 y3 => (UN.new (uk2 y y1 y2 y3)).put (fun z => y1 (by rw [← mo2 y y1, ← z]; exact hq4)) eR4
  have ar4 : K q4 = 0 := Classical.byContradiction fun z => z (by rw [← mo2 q4 z]; exact hq4)
  have c4 := c2.row (n := 16) (kd := 64) (k := 7) (by decide) hq4 rfl (by simp) eR4
  generalize va_up K2 q4 (64) = K4 at c4 u4 mo4 ⊢
  generalize va_up len2 q4 16 = len4 at c4 ⊢
  generalize z2 I2 q4 0 = I4 at c4 ⊢
  generalize z2 J2 q4 0 = J4
  refine r_seal (q := a0) (ci := 2) c4.2.1 rfl rfl ?_
  have md5 := c4.made (J := J4) (by decide) (by simp [refT]) (rz2) (fun _ => by decide) (fun z => absurd z (by decide)) (fun z => absurd z (by decide))
  exact r_vret hC hQ hlk hr (by decide) (by decide) dX2_init_20 ⟨rfl, md5, UU.seal (v := 1 + 2) u4 (by rw [c4.2.1]; decide) (by decide), un4, uk4⟩
abbrev rmX3_init : Room := { frames := 1, cells := 4, slots := 96, locals := 20 }
set_option maxHeartbeats 4000000 in
set_option maxRecDepth 100000 in
theorem c_X3_init (g : GG) (l : Launch) (K len : Nat → Nat) (I : Nat → Nat → Int32) (J : Nat → Nat → Int64) (R : Nat → Nat → Option Nat) (hs : Sf K len I R) (a0 : Nat) (ka0 : K a0 = 21 + 3) (hz : I a0 = fun _ => 0) (hn : ∀ k, R a0 k = none) (hu : UU K R) (hun : UN R a0) : Ct g l yX3_init cX3_init 1 none rmX3_init [.ref a0] (K, len, I, J, R) (pV5 (fun M' => (Made K len I R a0 3 (fun _ => 0) M') ∧ Own K R a0 M')) := by
  refine Ct_intro (by decide +kernel) (Nat.le_of_ble_eq_true rfl) (fun X hC hL hKK hNm hr hlk hQ => ?_)
  subst hL
  have hC : Cx g X cX3_init "HillTap$Readings" 1 rmX3_init := hC
  show P g X 1 0 [(0, .ref a0)] [] 0 0 (K, len, I, J, R)
  have c0 : Con K len I R a0 3 (fun _ => 0) [] K len I R := Con.start hs ka0 hz hn
  have mo0 : ∀ y, K y ≠ 0 → K y = K y := fun _ _ => rfl
  have uk0 : ∀ y, K y ≠ 0 → K y ≠ 6 → UN R y → UN R y := fun _ _ _ h => h
  refine r_aload_n hC dX3_init_0 0 rfl ?_
  refine r_objInit hC mT_2_59 mT_1_28 mT_1_29 dX3_init_1 (by decide) (by decide) ?_
  refine r_aload_n hC dX3_init_4 0 rfl ?_
  refine r_bipush hC (v := (24)) dX3_init_5 (by decide) (by decide) (fun z1 ez1 tz1 => ?_)
  refine r_newarray hC (atype := .int) (ty := .int) (kd := 46) (t := 1) (N := 24) rfl mT_1_152 rfl rfl rfl (by decide) (fun _ h => h) (24, arE 1 (K, len, fun _ _ => 0, fun _ _ => 0, fun _ _ => none) 0) rfl (ha_1 24 _ _) (nlt_0 (by omega)) (cl_of (by omega)) (by decide) (by decide) (by decide) dX3_init_7 (fun q2 hq2 => ?_)
  refine r_putrF hC 1 (ci := 3) hNm rfl u3_in tyX3_ok nmX3 (by decide) mT_2_62 rfl rfl rfl rfl dX3_init_9 (c0.kq hq2) rfl rfl (fun R2 eR2 => ?_)
  have u2 := (UU.new (kd := 46) hu hq2 (by first | decide | omega)).put (Or.inl (UN.fresh hu hq2)) (by rw [va_up_self]; first | decide | omega) eR2
  have un2 := (UN.new hun).put (fun z => c0.ne0 (by rw [← z]; exact hq2)) eR2
  have mo2 : ∀ y, K y ≠ 0 → va_up K q2 (46) y = K y := fun y hy => kupy hq2 (mo0 y hy) hy
  have uk2 : ∀ y, K y ≠ 0 → K y ≠ 6 → UN R y → UN R2 y := fun y y1 y2 y3 => (UN.new (uk0 y y1 y2 y3)).put (fun z => y1 (by rw [← mo0 y y1, ← z]; exact hq2)) eR2
  have ar2 : K q2 = 0 := Classical.byContradiction fun z => z (by rw [← mo0 q2 z]; exact hq2)
  have c2 := c0.row (n := 24) (kd := 46) (k := 1) (by decide) hq2 rfl (by simp) eR2
  generalize va_up K q2 (46) = K2 at c2 u2 mo2 ⊢
  generalize va_up len q2 24 = len2 at c2 ⊢
  generalize z2 I q2 0 = I2 at c2 ⊢
  generalize z2 J q2 0 = J2
  refine r_aload_n hC dX3_init_12 0 rfl ?_
  refine r_bipush hC (v := (24)) dX3_init_13 (by decide) (by decide) (fun z3 ez3 tz3 => ?_)
  refine r_newarray hC (atype := .int) (ty := .int) (kd := 47) (t := 1) (N := 24) rfl mT_1_152 rfl rfl rfl (by decide) (fun _ h => h) (24, arE 1 (K2, len2, fun _ _ => 0, fun _ _ => 0, fun _ _ => none) 0) rfl (ha_1 24 _ _) (nlt_0 (by omega)) (cl_of (by omega)) (by decide) (by decide) (by decide) dX3_init_15 (fun q4 hq4 => ?_)
  refine r_putrF hC 2 (ci := 3) hNm rfl u3_in tyX3_ok nmX3 (by decide) mT_2_63 rfl rfl rfl rfl dX3_init_17 (c2.kq hq4) rfl rfl (fun R4 eR4 => ?_)
  have u4 := (UU.new (kd := 47) u2 hq4 (by first | decide | omega)).put (Or.inl (UN.fresh u2 hq4)) (by rw [va_up_self]; first | decide | omega) eR4
  have un4 := (UN.new un2).put (fun z => c2.ne0 (by rw [← z]; exact hq4)) eR4
  have mo4 : ∀ y, K y ≠ 0 → va_up K2 q4 (47) y = K y := fun y hy => kupy hq4 (mo2 y hy) hy
  have uk4 : ∀ y, K y ≠ 0 → K y ≠ 6 → UN R y → UN R4 y := fun y y1 y2 y3 => (UN.new (uk2 y y1 y2 y3)).put (fun z => y1 (by rw [← mo2 y y1, ← z]; exact hq4)) eR4
  have ar4 : K q4 = 0 := Classical.byContradiction fun z => z (by rw [← mo2 q4 z]; exact hq4)
  have c4 := c2.row (n := 24) (kd := 47) (k := 2) (by decide) hq4 rfl (by simp) eR4
  generalize va_up K2 q4 (47) = K4 at c4 u4 mo4 ⊢
  generalize va_up len2 q4 24 = len4 at c4 ⊢
  generalize z2 I2 q4 0 = I4 at c4 ⊢
  generalize z2 J2 q4 0 = J4
  refine r_aload_n hC dX3_init_20 0 rfl ?_
  refine r_bipush hC (v := (24)) dX3_init_21 (by decide) (by decide) (fun z5 ez5 tz5 => ?_)
  refine r_newarray hC (atype := .int) (ty := .int) (kd := 65) (t := 1) (N := 24) rfl mT_1_152 rfl rfl rfl (by decide) (fun _ h => h) (24, arE 1 (K4, len4, fun _ _ => 0, fun _ _ => 0, fun _ _ => none) 0) rfl (ha_1 24 _ _) (nlt_0 (by omega)) (cl_of (by omega)) (by decide) (by decide) (by decide) dX3_init_23 (fun q6 hq6 => ?_)
  refine r_putrF hC 3 (ci := 3) hNm rfl u3_in tyX3_ok nmX3 (by decide) mT_2_64 rfl rfl rfl rfl dX3_init_25 (c4.kq hq6) rfl rfl (fun R6 eR6 => ?_)
  have u6 := (UU.new (kd := 65) u4 hq6 (by first | decide | omega)).put (Or.inl (UN.fresh u4 hq6)) (by rw [va_up_self]; first | decide | omega) eR6
  have un6 := (UN.new un4).put (fun z => c4.ne0 (by rw [← z]; exact hq6)) eR6
  have mo6 : ∀ y, K y ≠ 0 → va_up K4 q6 (65) y = K y := fun y hy => kupy hq6 (mo4 y hy) hy
  have uk6 : ∀ y, K y ≠ 0 → K y ≠ 6 → UN R y → UN R6 y := fun y y1 y2 y3 => (UN.new (uk4 y y1 y2 y3)).put (fun z => y1 (by rw [← mo4 y y1, ← z]; exact hq6)) eR6
  have ar6 : K q6 = 0 := Classical.byContradiction fun z => z (by rw [← mo4 q6 z]; exact hq6)
  have c6 := c4.row (n := 24) (kd := 65) (k := 3) (by decide) hq6 rfl (by simp) eR6
  generalize va_up K4 q6 (65) = K6 at c6 u6 mo6 ⊢
  generalize va_up len4 q6 24 = len6 at c6 ⊢
  generalize z2 I4 q6 0 = I6 at c6 ⊢
  generalize z2 J4 q6 0 = J6
  refine r_aload_n hC dX3_init_28 0 rfl ?_
  refine r_bipush hC (v := (24)) dX3_init_29 (by decide) (by decide) (fun z7 ez7 tz7 => ?_)
  refine r_newarray hC (atype := .int) (ty := .int) (kd := 66) (t := 1) (N := 24) rfl mT_1_152 rfl rfl rfl (by decide) (fun _ h => h) (24, arE 1 (K6, len6, fun _ _ => 0, fun _ _ => 0, fun _ _ => none) 0) rfl (ha_1 24 _ _) (nlt_0 (by omega)) (cl_of (by omega)) (by decide) (by decide) (by decide) dX3_init_31 (fun q8 hq8 => ?_)
  refine r_putrF hC 4 (ci := 3) hNm rfl u3_in tyX3_ok nmX3 (by decide) mT_2_65 rfl rfl rfl rfl dX3_init_33 (c6.kq hq8) rfl rfl (fun R8 eR8 => ?_)
  have u8 := (UU.new (kd := 66) u6 hq8 (by first | decide | omega)).put (Or.inl (UN.fresh u6 hq8)) (by rw [va_up_self]; first | decide | omega) eR8
  have un8 := (UN.new un6).put (fun z => c6.ne0 (by rw [← z]; exact hq8)) eR8
  have mo8 : ∀ y, K y ≠ 0 → va_up K6 q8 (66) y = K y := fun y hy => kupy hq8 (mo6 y hy) hy
  have uk8 : ∀ y, K y ≠ 0 → K y ≠ 6 → UN R y → UN R8 y := fun y y1 y2 y3 => (UN.new (uk6 y y1 y2 y3)).put (fun z => y1 (by rw [← mo6 y y1, ← z]; exact hq8)) eR8
  have ar8 : K q8 = 0 := Classical.byContradiction fun z => z (by rw [← mo6 q8 z]; exact hq8)
  have c8 := c6.row (n := 24) (kd := 66) (k := 4) (by decide) hq8 rfl (by simp) eR8
  generalize va_up K6 q8 (66) = K8 at c8 u8 mo8 ⊢
  generalize va_up len6 q8 24 = len8 at c8 ⊢
  generalize z2 I6 q8 0 = I8 at c8 ⊢
  generalize z2 J6 q8 0 = J8
  refine r_seal (q := a0) (ci := 3) c8.2.1 rfl rfl ?_
  have md9 := c8.made (J := J8) (by decide) (by simp [refT]) (rz3) (fun z => absurd z (by decide)) (fun z => absurd z (by decide)) (fun z => absurd z (by decide))
  exact r_vret hC hQ hlk hr (by decide) (by decide) dX3_init_36 ⟨rfl, md9, UU.seal (v := 1 + 3) u8 (by rw [c8.2.1]; decide) (by decide), un8, uk8⟩
abbrev rmX0_init : Room := { frames := 1, cells := 5, slots := 1020, locals := 20 }
set_option maxHeartbeats 4000000 in
set_option maxRecDepth 100000 in
theorem c_X0_init (g : GG) (l : Launch) (K len : Nat → Nat) (I : Nat → Nat → Int32) (J : Nat → Nat → Int64) (R : Nat → Nat → Option Nat) (hs : Sf K len I R) (a0 : Nat) (ka0 : K a0 = 21 + 0) (hz : I a0 = fun _ => 0) (hn : ∀ k, R a0 k = none) (hu : UU K R) (hun : UN R a0) : Ct g l yX0_init cX0_init 1 none rmX0_init [.ref a0] (K, len, I, J, R) (pV5 (fun M' => (Made K len I R a0 0 (fun _ => 0) M') ∧ Own K R a0 M')) := by
  refine Ct_intro (by decide +kernel) (Nat.le_of_ble_eq_true rfl) (fun X hC hL hKK hNm hr hlk hQ => ?_)
  subst hL
  have hC : Cx g X cX0_init "HillTap$Course" 1 rmX0_init := hC
  show P g X 1 0 [(0, .ref a0)] [] 0 0 (K, len, I, J, R)
  have c0 : Con K len I R a0 0 (fun _ => 0) [] K len I R := Con.start hs ka0 hz hn
  have mo0 : ∀ y, K y ≠ 0 → K y = K y := fun _ _ => rfl
  have uk0 : ∀ y, K y ≠ 0 → K y ≠ 6 → UN R y → UN R y := fun _ _ _ h => h
  refine r_aload_n hC dX0_init_0 0 rfl ?_
  refine r_objInit hC mT_2_24 mT_1_28 mT_1_29 dX0_init_1 (by decide) (by decide) ?_
  refine r_aload_n hC dX0_init_4 0 rfl ?_
  refine r_sipush hC (v := (300)) dX0_init_5 (by decide) (by decide) (fun z1 ez1 tz1 => ?_)
  refine r_newarray hC (atype := .int) (ty := .int) (kd := 50) (t := 1) (N := 300) rfl mT_1_152 rfl rfl rfl (by decide) (fun _ h => h) (300, arE 1 (K, len, fun _ _ => 0, fun _ _ => 0, fun _ _ => none) 0) rfl (ha_1 300 _ _) (nlt_0 (by omega)) (cl_of (by omega)) (by decide) (by decide) (by decide) dX0_init_8 (fun q2 hq2 => ?_)
  refine r_putrF hC 0 (ci := 0) hNm rfl u0_in tyX0_ok nmX0 (by decide) mT_2_25 rfl rfl rfl rfl dX0_init_10 (c0.kq hq2) rfl rfl (fun R2 eR2 => ?_)
  have u2 := (UU.new (kd := 50) hu hq2 (by first | decide | omega)).put (Or.inl (UN.fresh hu hq2)) (by rw [va_up_self]; first | decide | omega) eR2
  have un2 := (UN.new hun).put (fun z => c0.ne0 (by rw [← z]; exact hq2)) eR2
  have mo2 : ∀ y, K y ≠ 0 → va_up K q2 (50) y = K y := fun y hy => kupy hq2 (mo0 y hy) hy
  have uk2 : ∀ y, K y ≠ 0 → K y ≠ 6 → UN R y → UN R2 y := fun y y1 y2 y3 => (UN.new (uk0 y y1 y2 y3)).put (fun z => y1 (by rw [← mo0 y y1, ← z]; exact hq2)) eR2
  have ar2 : K q2 = 0 := Classical.byContradiction fun z => z (by rw [← mo0 q2 z]; exact hq2)
  have c2 := c0.row (n := 300) (kd := 50) (k := 0) (by decide) hq2 rfl (by simp) eR2
  generalize va_up K q2 (50) = K2 at c2 u2 mo2 ⊢
  generalize va_up len q2 300 = len2 at c2 ⊢
  generalize z2 I q2 0 = I2 at c2 ⊢
  generalize z2 J q2 0 = J2
  refine r_aload_n hC dX0_init_13 0 rfl ?_
  refine r_sipush hC (v := (300)) dX0_init_14 (by decide) (by decide) (fun z3 ez3 tz3 => ?_)
  refine r_newarray hC (atype := .int) (ty := .int) (kd := 51) (t := 1) (N := 300) rfl mT_1_152 rfl rfl rfl (by decide) (fun _ h => h) (300, arE 1 (K2, len2, fun _ _ => 0, fun _ _ => 0, fun _ _ => none) 0) rfl (ha_1 300 _ _) (nlt_0 (by omega)) (cl_of (by omega)) (by decide) (by decide) (by decide) dX0_init_17 (fun q4 hq4 => ?_)
  refine r_putrF hC 1 (ci := 0) hNm rfl u0_in tyX0_ok nmX0 (by decide) mT_2_27 rfl rfl rfl rfl dX0_init_19 (c2.kq hq4) rfl rfl (fun R4 eR4 => ?_)
  have u4 := (UU.new (kd := 51) u2 hq4 (by first | decide | omega)).put (Or.inl (UN.fresh u2 hq4)) (by rw [va_up_self]; first | decide | omega) eR4
  have un4 := (UN.new un2).put (fun z => c2.ne0 (by rw [← z]; exact hq4)) eR4
  have mo4 : ∀ y, K y ≠ 0 → va_up K2 q4 (51) y = K y := fun y hy => kupy hq4 (mo2 y hy) hy
  have uk4 : ∀ y, K y ≠ 0 → K y ≠ 6 → UN R y → UN R4 y := fun y y1 y2 y3 => (UN.new (uk2 y y1 y2 y3)).put (fun z => y1 (by rw [← mo2 y y1, ← z]; exact hq4)) eR4
  have ar4 : K q4 = 0 := Classical.byContradiction fun z => z (by rw [← mo2 q4 z]; exact hq4)
  have c4 := c2.row (n := 300) (kd := 51) (k := 1) (by decide) hq4 rfl (by simp) eR4
  generalize va_up K2 q4 (51) = K4 at c4 u4 mo4 ⊢
  generalize va_up len2 q4 300 = len4 at c4 ⊢
  generalize z2 I2 q4 0 = I4 at c4 ⊢
  generalize z2 J2 q4 0 = J4
  refine r_aload_n hC dX0_init_22 0 rfl ?_
  refine r_sipush hC (v := (300)) dX0_init_23 (by decide) (by decide) (fun z5 ez5 tz5 => ?_)
  refine r_newarray hC (atype := .int) (ty := .int) (kd := 52) (t := 1) (N := 300) rfl mT_1_152 rfl rfl rfl (by decide) (fun _ h => h) (300, arE 1 (K4, len4, fun _ _ => 0, fun _ _ => 0, fun _ _ => none) 0) rfl (ha_1 300 _ _) (nlt_0 (by omega)) (cl_of (by omega)) (by decide) (by decide) (by decide) dX0_init_26 (fun q6 hq6 => ?_)
  refine r_putrF hC 2 (ci := 0) hNm rfl u0_in tyX0_ok nmX0 (by decide) mT_2_30 rfl rfl rfl rfl dX0_init_28 (c4.kq hq6) rfl rfl (fun R6 eR6 => ?_)
  have u6 := (UU.new (kd := 52) u4 hq6 (by first | decide | omega)).put (Or.inl (UN.fresh u4 hq6)) (by rw [va_up_self]; first | decide | omega) eR6
  have un6 := (UN.new un4).put (fun z => c4.ne0 (by rw [← z]; exact hq6)) eR6
  have mo6 : ∀ y, K y ≠ 0 → va_up K4 q6 (52) y = K y := fun y hy => kupy hq6 (mo4 y hy) hy
  have uk6 : ∀ y, K y ≠ 0 → K y ≠ 6 → UN R y → UN R6 y := fun y y1 y2 y3 => (UN.new (uk4 y y1 y2 y3)).put (fun z => y1 (by rw [← mo4 y y1, ← z]; exact hq6)) eR6
  have ar6 : K q6 = 0 := Classical.byContradiction fun z => z (by rw [← mo4 q6 z]; exact hq6)
  have c6 := c4.row (n := 300) (kd := 52) (k := 2) (by decide) hq6 rfl (by simp) eR6
  generalize va_up K4 q6 (52) = K6 at c6 u6 mo6 ⊢
  generalize va_up len4 q6 300 = len6 at c6 ⊢
  generalize z2 I4 q6 0 = I6 at c6 ⊢
  generalize z2 J4 q6 0 = J6
  refine r_aload_n hC dX0_init_31 0 rfl ?_
  refine r_bipush hC (v := (60)) dX0_init_32 (by decide) (by decide) (fun z7 ez7 tz7 => ?_)
  refine r_newarray hC (atype := .int) (ty := .int) (kd := 53) (t := 1) (N := 60) rfl mT_1_152 rfl rfl rfl (by decide) (fun _ h => h) (60, arE 1 (K6, len6, fun _ _ => 0, fun _ _ => 0, fun _ _ => none) 0) rfl (ha_1 60 _ _) (nlt_0 (by omega)) (cl_of (by omega)) (by decide) (by decide) (by decide) dX0_init_34 (fun q8 hq8 => ?_)
  refine r_putrF hC 3 (ci := 0) hNm rfl u0_in tyX0_ok nmX0 (by decide) mT_2_32 rfl rfl rfl rfl dX0_init_36 (c6.kq hq8) rfl rfl (fun R8 eR8 => ?_)
  have u8 := (UU.new (kd := 53) u6 hq8 (by first | decide | omega)).put (Or.inl (UN.fresh u6 hq8)) (by rw [va_up_self]; first | decide | omega) eR8
  have un8 := (UN.new un6).put (fun z => c6.ne0 (by rw [← z]; exact hq8)) eR8
  have mo8 : ∀ y, K y ≠ 0 → va_up K6 q8 (53) y = K y := fun y hy => kupy hq8 (mo6 y hy) hy
  have uk8 : ∀ y, K y ≠ 0 → K y ≠ 6 → UN R y → UN R8 y := fun y y1 y2 y3 => (UN.new (uk6 y y1 y2 y3)).put (fun z => y1 (by rw [← mo6 y y1, ← z]; exact hq8)) eR8
  have ar8 : K q8 = 0 := Classical.byContradiction fun z => z (by rw [← mo6 q8 z]; exact hq8)
  have c8 := c6.row (n := 60) (kd := 53) (k := 3) (by decide) hq8 rfl (by simp) eR8
  generalize va_up K6 q8 (53) = K8 at c8 u8 mo8 ⊢
  generalize va_up len6 q8 60 = len8 at c8 ⊢
  generalize z2 I6 q8 0 = I8 at c8 ⊢
  generalize z2 J6 q8 0 = J8
  refine r_aload_n hC dX0_init_39 0 rfl ?_
  refine r_bipush hC (v := (60)) dX0_init_40 (by decide) (by decide) (fun z9 ez9 tz9 => ?_)
  refine r_newarray hC (atype := .int) (ty := .int) (kd := 54) (t := 1) (N := 60) rfl mT_1_152 rfl rfl rfl (by decide) (fun _ h => h) (60, arE 1 (K8, len8, fun _ _ => 0, fun _ _ => 0, fun _ _ => none) 0) rfl (ha_1 60 _ _) (nlt_0 (by omega)) (cl_of (by omega)) (by decide) (by decide) (by decide) dX0_init_42 (fun q10 hq10 => ?_)
  refine r_putrF hC 4 (ci := 0) hNm rfl u0_in tyX0_ok nmX0 (by decide) mT_2_34 rfl rfl rfl rfl dX0_init_44 (c8.kq hq10) rfl rfl (fun R10 eR10 => ?_)
  have u10 := (UU.new (kd := 54) u8 hq10 (by first | decide | omega)).put (Or.inl (UN.fresh u8 hq10)) (by rw [va_up_self]; first | decide | omega) eR10
  have un10 := (UN.new un8).put (fun z => c8.ne0 (by rw [← z]; exact hq10)) eR10
  have mo10 : ∀ y, K y ≠ 0 → va_up K8 q10 (54) y = K y := fun y hy => kupy hq10 (mo8 y hy) hy
  have uk10 : ∀ y, K y ≠ 0 → K y ≠ 6 → UN R y → UN R10 y := fun y y1 y2 y3 => (UN.new (uk8 y y1 y2 y3)).put (fun z => y1 (by rw [← mo8 y y1, ← z]; exact hq10)) eR10
  have ar10 : K q10 = 0 := Classical.byContradiction fun z => z (by rw [← mo8 q10 z]; exact hq10)
  have c10 := c8.row (n := 60) (kd := 54) (k := 4) (by decide) hq10 rfl (by simp) eR10
  generalize va_up K8 q10 (54) = K10 at c10 u10 mo10 ⊢
  generalize va_up len8 q10 60 = len10 at c10 ⊢
  generalize z2 I8 q10 0 = I10 at c10 ⊢
  generalize z2 J8 q10 0 = J10
  refine r_seal (q := a0) (ci := 0) c10.2.1 rfl rfl ?_
  have md11 := c10.made (J := J10) (by decide) (by simp [refT]) (rz0) (fun z => absurd z (by decide)) (fun z => absurd z (by decide)) (fun z => absurd z (by decide))
  exact r_vret hC hQ hlk hr (by decide) (by decide) dX0_init_47 ⟨rfl, md11, UU.seal (v := 1 + 0) u10 (by rw [c10.2.1]; decide) (by decide), un10, uk10⟩
abbrev rmX7_init : Room := { frames := 1, cells := 0, slots := 0, locals := 20 }
set_option maxHeartbeats 4000000 in
set_option maxRecDepth 100000 in
theorem c_X7_init (g : GG) (l : Launch) (K len : Nat → Nat) (I : Nat → Nat → Int32) (J : Nat → Nat → Int64) (R : Nat → Nat → Option Nat) (hs : Sf K len I R) (a0 : Nat) (ka0 : K a0 = 21 + 7) (hz : I a0 = fun _ => 0) (hn : ∀ k, R a0 k = none) (hu : UU K R) (hun : UN R a0) (a1 : Nat) (ka1 : K a1 = 6) : Ct g l yX7_init cX7_init 2 none rmX7_init [.ref a0, .ref a1] (K, len, I, J, R) (pV5 (fun M' => (Made K len I R a0 7 (fun _ => 0) M' ∧ M'.2.2.2.2 a0 0 = some a1) ∧ Own K R a0 M')) := by
  refine Ct_intro (by decide +kernel) (Nat.le_of_ble_eq_true rfl) (fun X hC hL hKK hNm hr hlk hQ => ?_)
  subst hL
  have hC : Cx g X cX7_init "HillTap$Tokens" 2 rmX7_init := hC
  show P g X 2 0 [(0, .ref a0), (1, .ref a1)] [] 0 0 (K, len, I, J, R)
  have c0 : Con K len I R a0 7 (fun _ => 0) [] K len I R := Con.start hs ka0 hz hn
  have mo0 : ∀ y, K y ≠ 0 → K y = K y := fun _ _ => rfl
  have uk0 : ∀ y, K y ≠ 0 → K y ≠ 6 → UN R y → UN R y := fun _ _ _ h => h
  refine r_aload_n hC dX7_init_0 0 rfl ?_
  refine r_objInit hC mT_1_58 mT_1_28 mT_1_29 dX7_init_1 (by decide) (by decide) ?_
  refine r_aload_n hC dX7_init_4 0 rfl ?_
  refine r_aload_n hC dX7_init_5 1 rfl ?_
  refine r_putrF hC 0 (ci := 7) hNm rfl u7_in tyX7_ok nmX7 (by decide) mT_1_59 rfl rfl rfl rfl dX7_init_6 (c0.2.1) rfl rfl (fun R1 eR1 => ?_)
  have u1 := hu.put (Or.inr (Or.inr (Or.inl ((mo0 a1 (by rw [ka1]; decide)).trans ka1)))) (by rw [mo0 a1 (by rw [ka1]; decide), ka1]; decide) eR1
  have un1 := hun.put (fun z => by rw [z, ka0] at ka1; omega) eR1
  have uk1 : ∀ y, K y ≠ 0 → K y ≠ 6 → UN R y → UN R1 y := fun y y1 y2 y3 => UN.put (uk0 y y1 y2 y3) (fun z => y2 (by rw [← z]; exact ka1)) eR1
  have c1 := c0.old (n := len a1) (by decide) ka1 rfl (by decide) (fun z => by rw [z, ka0] at ka1; omega) (by simp) eR1
  refine r_seal (q := a0) (ci := 7) c1.2.1 rfl rfl ?_
  have md2 := c1.made (J := J) (by decide) (by simp [refT]) (rz7) (fun z => absurd z (by decide)) (fun z => absurd z (by decide)) (fun z => absurd z (by decide))
  exact r_vret hC hQ hlk hr (by decide) (by decide) dX7_init_9 ⟨rfl, ⟨md2, (c1.2.2.2.1 (0, a1, 6, len a1) (by simp)).1⟩, UU.seal (v := 1 + 7) u1 (by rw [c1.2.1]; decide) (by decide), un1, uk1⟩
abbrev rmX6_init : Room := { frames := 2, cells := 3, slots := 30, locals := 41 }
set_option maxHeartbeats 4000000 in
set_option maxRecDepth 100000 in
theorem c_X6_init (g : GG) (l : Launch) (K len : Nat → Nat) (I : Nat → Nat → Int32) (J : Nat → Nat → Int64) (R : Nat → Nat → Option Nat) (hs : Sf K len I R) (a0 : Nat) (ka0 : K a0 = 21 + 6) (hz : I a0 = fun _ => 0) (hn : ∀ k, R a0 k = none) (hu : UU K R) (hun : UN R a0) (a1 : Nat) (ka1 : K a1 = 6) : Ct g l yX6_init cX6_init 2 none rmX6_init [.ref a0, .ref a1] (K, len, I, J, R) (pV5 (fun M' => (Made K len I R a0 6 (fun _ => 0) M' ∧ ∃ tk, M'.2.2.2.2 a0 0 = some tk ∧ M'.1 tk = 8 ∧ M'.2.2.2.2 tk 0 = some a1) ∧ Own K R a0 M')) := by
  refine Ct_intro (by decide +kernel) (Nat.le_of_ble_eq_true rfl) (fun X hC hL hKK hNm hr hlk hQ => ?_)
  subst hL
  have hC : Cx g X cX6_init "HillTap$Teller" 2 rmX6_init := hC
  show P g X 2 0 [(0, .ref a0), (1, .ref a1)] [] 0 0 (K, len, I, J, R)
  have c0 : Con K len I R a0 6 (fun _ => 0) [] K len I R := Con.start hs ka0 hz hn
  have mo0 : ∀ y, K y ≠ 0 → K y = K y := fun _ _ => rfl
  have uk0 : ∀ y, K y ≠ 0 → K y ≠ 6 → UN R y → UN R y := fun _ _ _ h => h
  refine r_aload_n hC dX6_init_0 0 rfl ?_
  refine r_objInit hC mT_1_52 mT_1_28 mT_1_29 dX6_init_1 (by decide) (by decide) ?_
  refine r_aload_n hC dX6_init_4 0 rfl ?_
  refine r_bipush hC (v := (19)) dX6_init_5 (by decide) (by decide) (fun z1 ez1 tz1 => ?_)
  refine r_newarray hC (atype := .long) (ty := .long) (kd := 42) (t := 2) (N := 19) rfl mT_1_80 rfl rfl rfl (by decide) (fun _ h => h) (19, arE 2 (K, len, fun _ _ => 0, fun _ _ => 0, fun _ _ => none) 0) rfl (ha_2 19 _ _) (nlt_0 (by omega)) (cl_of (by omega)) (by decide) (by decide) (by decide) dX6_init_7 (fun q2 hq2 => ?_)
  refine r_putrF hC 1 (ci := 6) hNm rfl u6_in tyX6_ok nmX6 (by decide) mT_1_82 rfl rfl rfl rfl dX6_init_9 (c0.kq hq2) rfl rfl (fun R2 eR2 => ?_)
  have u2 := (UU.new (kd := 42) hu hq2 (by first | decide | omega)).put (Or.inl (UN.fresh hu hq2)) (by rw [va_up_self]; first | decide | omega) eR2
  have un2 := (UN.new hun).put (fun z => c0.ne0 (by rw [← z]; exact hq2)) eR2
  have mo2 : ∀ y, K y ≠ 0 → va_up K q2 (42) y = K y := fun y hy => kupy hq2 (mo0 y hy) hy
  have uk2 : ∀ y, K y ≠ 0 → K y ≠ 6 → UN R y → UN R2 y := fun y y1 y2 y3 => (UN.new (uk0 y y1 y2 y3)).put (fun z => y1 (by rw [← mo0 y y1, ← z]; exact hq2)) eR2
  have ar2 : K q2 = 0 := Classical.byContradiction fun z => z (by rw [← mo0 q2 z]; exact hq2)
  have c2 := c0.row (n := 19) (kd := 42) (k := 1) (by decide) hq2 rfl (by simp) eR2
  generalize va_up K q2 (42) = K2 at c2 u2 mo2 ⊢
  generalize va_up len q2 19 = len2 at c2 ⊢
  generalize z2 I q2 0 = I2 at c2 ⊢
  generalize z2 J q2 0 = J2
  refine r_aload_n hC dX6_init_12 0 rfl ?_
  refine r_iconst hC (v := (5)) dX6_init_13 (by decide) (by decide) (fun z3 ez3 tz3 => ?_)
  refine r_newarray hC (atype := .long) (ty := .long) (kd := 48) (t := 2) (N := 5) rfl mT_1_80 rfl rfl rfl (by decide) (fun _ h => h) (5, arE 2 (K2, len2, fun _ _ => 0, fun _ _ => 0, fun _ _ => none) 0) rfl (ha_2 5 _ _) (nlt_0 (by omega)) (cl_of (by omega)) (by decide) (by decide) (by decide) dX6_init_14 (fun q4 hq4 => ?_)
  refine r_putrF hC 2 (ci := 6) hNm rfl u6_in tyX6_ok nmX6 (by decide) mT_1_83 rfl rfl rfl rfl dX6_init_16 (c2.kq hq4) rfl rfl (fun R4 eR4 => ?_)
  have u4 := (UU.new (kd := 48) u2 hq4 (by first | decide | omega)).put (Or.inl (UN.fresh u2 hq4)) (by rw [va_up_self]; first | decide | omega) eR4
  have un4 := (UN.new un2).put (fun z => c2.ne0 (by rw [← z]; exact hq4)) eR4
  have mo4 : ∀ y, K y ≠ 0 → va_up K2 q4 (48) y = K y := fun y hy => kupy hq4 (mo2 y hy) hy
  have uk4 : ∀ y, K y ≠ 0 → K y ≠ 6 → UN R y → UN R4 y := fun y y1 y2 y3 => (UN.new (uk2 y y1 y2 y3)).put (fun z => y1 (by rw [← mo2 y y1, ← z]; exact hq4)) eR4
  have ar4 : K q4 = 0 := Classical.byContradiction fun z => z (by rw [← mo2 q4 z]; exact hq4)
  have c4 := c2.row (n := 5) (kd := 48) (k := 2) (by decide) hq4 rfl (by simp) eR4
  generalize va_up K2 q4 (48) = K4 at c4 u4 mo4 ⊢
  generalize va_up len2 q4 5 = len4 at c4 ⊢
  generalize z2 I2 q4 0 = I4 at c4 ⊢
  generalize z2 J2 q4 0 = J4
  refine r_aload_n hC dX6_init_19 0 rfl ?_
  refine r_new hC (ci := 7) (ty := tyX7) rfl u7_in tyX7_ok df7 mT_1_53 mT_1_54 mT_1_4 rfl (by decide) (by decide) dX6_init_20 (fun q5 hq5 => ?_)
  refine r_dup hC dX6_init_23 rfl ?_
  refine r_aload_n hC dX6_init_24 1 rfl ?_
  refine r_callI hC (As := [.ref a1]) (rest := [.ref q5, .ref a0]) (c_X7_init g (xL X) _ _ _ _ _ (c4.1.growO hq5 rfl) q5 (va_up_self _ _ _) (by funext j; exact z2_self _ _ _ _) (fun j => z2_self _ _ _ _) (UU.new (kd := 21 + 7) u4 hq5 (by decide)) (UN.fresh u4 hq5) a1 (kup hq5 ((c4.2.2.2.2.2 a1 (by rw [ka1]; decide) (fun z => by rw [z, ka0] at ka1; omega)).1.trans ka1) (by decide))) mT_1_57 mT_1_4 mT_1_55 mT_1_56 rfl okX7_init ⟨by decide, by decide⟩ rfl rfl (Nat.le_of_ble_eq_true rfl) ⟨by decide, by decide⟩ dX6_init_25 (aV5 (F := fun st M => P g X 2 28 [(0, .ref a0), (1, .ref a1)] st _ _ M) fun M6 h6 => ?_)
  obtain ⟨K6, len6, I6, J6, R6⟩ := M6
  obtain ⟨h6, u6, uq6, uy6⟩ := h6
  dsimp only at u6 uq6 uy6
  obtain ⟨h6, ex6⟩ := h6
  dsimp only at ex6
  have mo6 : ∀ y, K y ≠ 0 → K6 y = K y := fun y hy => (made_oldK hq5 h6 y (by rw [mo4 y hy]; exact hy)).trans (mo4 y hy)
  have un6 : UN R6 a0 := uy6 a0 (by rw [c4.kq hq5]; omega) (by rw [c4.kq hq5]; omega) (un4.new)
  have uk6 : ∀ y, K y ≠ 0 → K y ≠ 6 → UN R y → UN R6 y := fun y y1 y2 y3 => uy6 y (by rw [kupy hq5 (mo4 y y1) y1]; exact y1) (by rw [kupy hq5 (mo4 y y1) y1]; exact y2) (UN.new (uk4 y y1 y2 y3))
  obtain ⟨c6, hk6, hqa6, hz6⟩ := c4.after hq5 h6
  show P g X 2 28 [(0, .ref a0), (1, .ref a1)] [.ref q5, .ref a0] _ _ (K6, len6, I6, J6, R6)
  refine r_putrF hC 0 (ci := 6) hNm rfl u6_in tyX6_ok nmX6 (by decide) mT_1_81 rfl rfl rfl rfl dX6_init_28 (c6.2.1) rfl rfl (fun R7 eR7 => ?_)
  have u7 := u6.put (Or.inl uq6) (by rw [hk6]; exact Nat.succ_ne_zero _) eR7
  have un7 := un6.put hqa6 eR7
  have uk7 : ∀ y, K y ≠ 0 → K y ≠ 6 → UN R y → UN R7 y := fun y y1 y2 y3 => (uk6 y y1 y2 y3).put (fun z => y1 (by rw [← mo4 y y1, ← z]; exact hq5)) eR7
  have c7 := c6.old (n := len6 q5) (by decide) hk6 rfl (by decide) hqa6 (by simp) eR7
  have rq_tk : R7 q5 0 = some a1 := by rw [eR7, up2_ne _ _ (Or.inl hqa6)]; exact ex6
  refine r_seal (q := a0) (ci := 6) c7.2.1 rfl rfl ?_
  have md8 := c7.made (J := J6) (by decide) (by simp [refT]) (rz6) (fun z => absurd z (by decide)) (fun z => absurd z (by decide)) (fun z => absurd z (by decide))
  exact r_vret hC hQ hlk hr (by decide) (by decide) dX6_init_31 ⟨rfl, ⟨md8, q5, (c7.2.2.2.1 (0, q5, 8, len6 q5) (by simp)).1, by show va_up K6 a0 (1 + 6) q5 = 8; rw [va_up_ne _ _ hqa6]; exact hk6, rq_tk⟩, UU.seal (v := 1 + 6) u7 (by rw [c7.2.1]; decide) (by decide), un7, uk7⟩
abbrev rmX1_init : Room := { frames := 2, cells := 18, slots := 160, locals := 40 }
set_option maxHeartbeats 4000000 in
set_option maxRecDepth 100000 in
theorem c_X1_init (g : GG) (l : Launch) (K len : Nat → Nat) (I : Nat → Nat → Int32) (J : Nat → Nat → Int64) (R : Nat → Nat → Option Nat) (hs : Sf K len I R) (a0 : Nat) (ka0 : K a0 = 21 + 1) (hz : I a0 = fun _ => 0) (hn : ∀ k, R a0 k = none) (hu : UU K R) (hun : UN R a0) : Ct g l yX1_init cX1_init 2 none rmX1_init [.ref a0] (K, len, I, J, R) (pV5 (fun M' => (Made K len I R a0 1 (fun _ => 0) M' ∧ ∃ lk, M'.2.2.2.2 a0 0 = some lk ∧ M'.1 lk = 3 ∧ K lk = 0 ∧ M'.2.2.1 lk = fun _ => 0) ∧ Own K R a0 M')) := by
  refine Ct_intro (by decide +kernel) (Nat.le_of_ble_eq_true rfl) (fun X hC hL hKK hNm hr hlk hQ => ?_)
  subst hL
  have hC : Cx g X cX1_init "HillTap$Hill" 2 rmX1_init := hC
  show P g X 2 0 [(0, .ref a0)] [] 0 0 (K, len, I, J, R)
  have c0 : Con K len I R a0 1 (fun _ => 0) [] K len I R := Con.start hs ka0 hz hn
  have mo0 : ∀ y, K y ≠ 0 → K y = K y := fun _ _ => rfl
  have uk0 : ∀ y, K y ≠ 0 → K y ≠ 6 → UN R y → UN R y := fun _ _ _ h => h
  refine r_aload_n hC dX1_init_0 0 rfl ?_
  refine r_objInit hC mT_1_110 mT_1_28 mT_1_29 dX1_init_1 (by decide) (by decide) ?_
  refine r_aload_n hC dX1_init_4 0 rfl ?_
  refine r_new hC (ci := 2) (ty := tyX2) rfl u2_in tyX2_ok df2 mT_1_111 mT_1_112 mT_1_6 rfl (by decide) (by decide) dX1_init_5 (fun q1 hq1 => ?_)
  refine r_dup hC dX1_init_8 rfl ?_
  refine r_callIN hC (As := []) (rest := [.ref q1, .ref a0]) (c_X2_init g (xL X) _ _ _ _ _ (c0.1.growO hq1 rfl) q1 (va_up_self _ _ _) (by funext j; exact z2_self _ _ _ _) (fun j => z2_self _ _ _ _) (UU.new (kd := 21 + 2) hu hq1 (by decide)) (UN.fresh hu hq1)) mT_1_115 mT_1_6 nM_1 mT_1_114 rfl okX2_init ⟨by decide, by decide⟩ rfl rfl (Nat.le_of_ble_eq_true rfl) ⟨by decide, by decide⟩ dX1_init_9 (aV5 (F := fun st M => P g X 2 12 [(0, .ref a0)] st _ _ M) fun M2 h2 => ?_)
  obtain ⟨K2, len2, I2, J2, R2⟩ := M2
  obtain ⟨h2, u2, uq2, uy2⟩ := h2
  dsimp only at u2 uq2 uy2
  have mo2 : ∀ y, K y ≠ 0 → K2 y = K y := fun y hy => (made_oldK hq1 h2 y (by rw [mo0 y hy]; exact hy)).trans (mo0 y hy)
  have un2 : UN R2 a0 := uy2 a0 (by rw [c0.kq hq1]; omega) (by rw [c0.kq hq1]; omega) (hun.new)
  have uk2 : ∀ y, K y ≠ 0 → K y ≠ 6 → UN R y → UN R2 y := fun y y1 y2 y3 => uy2 y (by rw [kupy hq1 (mo0 y y1) y1]; exact y1) (by rw [kupy hq1 (mo0 y y1) y1]; exact y2) (UN.new (uk0 y y1 y2 y3))
  obtain ⟨c2, hk2, hqa2, hz2⟩ := c0.after hq1 h2
  show P g X 2 12 [(0, .ref a0)] [.ref q1, .ref a0] _ _ (K2, len2, I2, J2, R2)
  refine r_putrF hC 0 (ci := 1) hNm rfl u1_in tyX1_ok nmX1 (by decide) mT_1_180 rfl rfl rfl rfl dX1_init_12 (c2.2.1) rfl rfl (fun R3 eR3 => ?_)
  have u3 := u2.put (Or.inl uq2) (by rw [hk2]; exact Nat.succ_ne_zero _) eR3
  have un3 := un2.put hqa2 eR3
  have uk3 : ∀ y, K y ≠ 0 → K y ≠ 6 → UN R y → UN R3 y := fun y y1 y2 y3 => (uk2 y y1 y2 y3).put (fun z => y1 (by rw [← mo0 y y1, ← z]; exact hq1)) eR3
  have c3 := c2.old (n := len2 q1) (by decide) hk2 rfl (by decide) hqa2 (by simp) eR3
  have z_q1 : I2 q1 = fun _ => 0 := hz2
  have cB4 := c3
  have cx4 := c3.rebase
  refine r_aload_n hC dX1_init_15 0 rfl ?_
  refine r_iconst hC (v := (5)) dX1_init_16 (by decide) (by decide) (fun z5 ez5 tz5 => ?_)
  refine r_newarray hC (atype := .int) (ty := .int) (kd := 55) (t := 1) (N := 5) rfl mT_1_152 rfl rfl rfl (by decide) (fun _ h => h) (5, arE 1 (K2, len2, fun _ _ => 0, fun _ _ => 0, fun _ _ => none) 0) rfl (ha_1 5 _ _) (nlt_0 (by omega)) (cl_of (by omega)) (by decide) (by decide) (by decide) dX1_init_17 (fun q6 hq6 => ?_)
  refine r_putrF hC 2 (ci := 1) hNm rfl u1_in tyX1_ok nmX1 (by decide) mT_1_188 rfl rfl rfl rfl dX1_init_19 (cx4.kq hq6) rfl rfl (fun R6 eR6 => ?_)
  have u6 := (UU.new (kd := 55) u3 hq6 (by first | decide | omega)).put (Or.inl (UN.fresh u3 hq6)) (by rw [va_up_self]; first | decide | omega) eR6
  have un6 := (UN.new un3).put (fun z => cx4.ne0 (by rw [← z]; exact hq6)) eR6
  have mo6 : ∀ y, K y ≠ 0 → va_up K2 q6 (55) y = K y := fun y hy => kupy hq6 (mo2 y hy) hy
  have uk6 : ∀ y, K y ≠ 0 → K y ≠ 6 → UN R y → UN R6 y := fun y y1 y2 y3 => (UN.new (uk3 y y1 y2 y3)).put (fun z => y1 (by rw [← mo2 y y1, ← z]; exact hq6)) eR6
  have ar6 : K q6 = 0 := Classical.byContradiction fun z => z (by rw [← mo2 q6 z]; exact hq6)
  have c6 := cx4.row (n := 5) (kd := 55) (k := 2) (by decide) hq6 rfl (by simp) eR6
  generalize va_up K2 q6 (55) = K6 at c6 u6 mo6 ⊢
  generalize va_up len2 q6 5 = len6 at c6 ⊢
  generalize z2 I2 q6 0 = I6 at c6 ⊢
  generalize z2 J2 q6 0 = J6
  refine r_aload_n hC dX1_init_22 0 rfl ?_
  refine r_iconst hC (v := (5)) dX1_init_23 (by decide) (by decide) (fun z7 ez7 tz7 => ?_)
  refine r_newarray hC (atype := .int) (ty := .int) (kd := 56) (t := 1) (N := 5) rfl mT_1_152 rfl rfl rfl (by decide) (fun _ h => h) (5, arE 1 (K6, len6, fun _ _ => 0, fun _ _ => 0, fun _ _ => none) 0) rfl (ha_1 5 _ _) (nlt_0 (by omega)) (cl_of (by omega)) (by decide) (by decide) (by decide) dX1_init_24 (fun q8 hq8 => ?_)
  refine r_putrF hC 3 (ci := 1) hNm rfl u1_in tyX1_ok nmX1 (by decide) mT_1_191 rfl rfl rfl rfl dX1_init_26 (c6.kq hq8) rfl rfl (fun R8 eR8 => ?_)
  have u8 := (UU.new (kd := 56) u6 hq8 (by first | decide | omega)).put (Or.inl (UN.fresh u6 hq8)) (by rw [va_up_self]; first | decide | omega) eR8
  have un8 := (UN.new un6).put (fun z => c6.ne0 (by rw [← z]; exact hq8)) eR8
  have mo8 : ∀ y, K y ≠ 0 → va_up K6 q8 (56) y = K y := fun y hy => kupy hq8 (mo6 y hy) hy
  have uk8 : ∀ y, K y ≠ 0 → K y ≠ 6 → UN R y → UN R8 y := fun y y1 y2 y3 => (UN.new (uk6 y y1 y2 y3)).put (fun z => y1 (by rw [← mo6 y y1, ← z]; exact hq8)) eR8
  have ar8 : K q8 = 0 := Classical.byContradiction fun z => z (by rw [← mo6 q8 z]; exact hq8)
  have c8 := c6.row (n := 5) (kd := 56) (k := 3) (by decide) hq8 rfl (by simp) eR8
  generalize va_up K6 q8 (56) = K8 at c8 u8 mo8 ⊢
  generalize va_up len6 q8 5 = len8 at c8 ⊢
  generalize z2 I6 q8 0 = I8 at c8 ⊢
  generalize z2 J6 q8 0 = J8
  refine r_aload_n hC dX1_init_29 0 rfl ?_
  refine r_bipush hC (v := (60)) dX1_init_30 (by decide) (by decide) (fun z9 ez9 tz9 => ?_)
  refine r_newarray hC (atype := .int) (ty := .int) (kd := 57) (t := 1) (N := 60) rfl mT_1_152 rfl rfl rfl (by decide) (fun _ h => h) (60, arE 1 (K8, len8, fun _ _ => 0, fun _ _ => 0, fun _ _ => none) 0) rfl (ha_1 60 _ _) (nlt_0 (by omega)) (cl_of (by omega)) (by decide) (by decide) (by decide) dX1_init_32 (fun q10 hq10 => ?_)
  refine r_putrF hC 5 (ci := 1) hNm rfl u1_in tyX1_ok nmX1 (by decide) mT_1_197 rfl rfl rfl rfl dX1_init_34 (c8.kq hq10) rfl rfl (fun R10 eR10 => ?_)
  have u10 := (UU.new (kd := 57) u8 hq10 (by first | decide | omega)).put (Or.inl (UN.fresh u8 hq10)) (by rw [va_up_self]; first | decide | omega) eR10
  have un10 := (UN.new un8).put (fun z => c8.ne0 (by rw [← z]; exact hq10)) eR10
  have mo10 : ∀ y, K y ≠ 0 → va_up K8 q10 (57) y = K y := fun y hy => kupy hq10 (mo8 y hy) hy
  have uk10 : ∀ y, K y ≠ 0 → K y ≠ 6 → UN R y → UN R10 y := fun y y1 y2 y3 => (UN.new (uk8 y y1 y2 y3)).put (fun z => y1 (by rw [← mo8 y y1, ← z]; exact hq10)) eR10
  have ar10 : K q10 = 0 := Classical.byContradiction fun z => z (by rw [← mo8 q10 z]; exact hq10)
  have c10 := c8.row (n := 60) (kd := 57) (k := 5) (by decide) hq10 rfl (by simp) eR10
  generalize va_up K8 q10 (57) = K10 at c10 u10 mo10 ⊢
  generalize va_up len8 q10 60 = len10 at c10 ⊢
  generalize z2 I8 q10 0 = I10 at c10 ⊢
  generalize z2 J8 q10 0 = J10
  refine r_aload_n hC dX1_init_37 0 rfl ?_
  refine r_bipush hC (v := (6)) dX1_init_38 (by decide) (by decide) (fun z11 ez11 tz11 => ?_)
  refine r_anewarray hC (kd := 35) (t := 5) (N := 6) mT_1_153 hC.2.2.2.2.2.2.2.1.2.2.2.2 rfl rfl rfl (by decide) (by decide) (nlt_0 (by omega)) (cl_of (by omega)) (by decide) (by decide) (by decide) dX1_init_40 (fun q12 hq12 => ?_)
  refine r_putrF hC 7 (ci := 1) hNm rfl u1_in tyX1_ok nmX1 (by decide) mT_1_203 rfl rfl rfl rfl dX1_init_43 (c10.kq hq12) rfl rfl (fun R12 eR12 => ?_)
  have u12 := (UU.new (kd := 35) u10 hq12 (by first | decide | omega)).put (Or.inl (UN.fresh u10 hq12)) (by rw [va_up_self]; first | decide | omega) eR12
  have un12 := (UN.new un10).put (fun z => c10.ne0 (by rw [← z]; exact hq12)) eR12
  have mo12 : ∀ y, K y ≠ 0 → va_up K10 q12 (35) y = K y := fun y hy => kupy hq12 (mo10 y hy) hy
  have uk12 : ∀ y, K y ≠ 0 → K y ≠ 6 → UN R y → UN R12 y := fun y y1 y2 y3 => (UN.new (uk10 y y1 y2 y3)).put (fun z => y1 (by rw [← mo10 y y1, ← z]; exact hq12)) eR12
  have ar12 : K q12 = 0 := Classical.byContradiction fun z => z (by rw [← mo10 q12 z]; exact hq12)
  have hz0q12 := c10.fresh hq12
  have c12 := c10.row (n := 6) (kd := 35) (k := 7) (by decide) hq12 rfl (by simp) eR12
  generalize va_up K10 q12 (35) = K12 at c12 u12 mo12 ⊢
  generalize va_up len10 q12 6 = len12 at c12 ⊢
  generalize z2 I10 q12 0 = I12 at c12 ⊢
  generalize z2 J10 q12 0 = J12
  refine r_aload_n hC dX1_init_46 0 rfl ?_
  refine r_iconst hC (v := (4)) dX1_init_47 (by decide) (by decide) (fun z13 ez13 tz13 => ?_)
  refine r_newarray hC (atype := .int) (ty := .int) (kd := 58) (t := 1) (N := 4) rfl mT_1_152 rfl rfl rfl (by decide) (fun _ h => h) (4, arE 1 (K12, len12, fun _ _ => 0, fun _ _ => 0, fun _ _ => none) 0) rfl (ha_1 4 _ _) (nlt_0 (by omega)) (cl_of (by omega)) (by decide) (by decide) (by decide) dX1_init_48 (fun q14 hq14 => ?_)
  refine r_putrF hC 9 (ci := 1) hNm rfl u1_in tyX1_ok nmX1 (by decide) mT_1_209 rfl rfl rfl rfl dX1_init_50 (c12.kq hq14) rfl rfl (fun R14 eR14 => ?_)
  have u14 := (UU.new (kd := 58) u12 hq14 (by first | decide | omega)).put (Or.inl (UN.fresh u12 hq14)) (by rw [va_up_self]; first | decide | omega) eR14
  have un14 := (UN.new un12).put (fun z => c12.ne0 (by rw [← z]; exact hq14)) eR14
  have mo14 : ∀ y, K y ≠ 0 → va_up K12 q14 (58) y = K y := fun y hy => kupy hq14 (mo12 y hy) hy
  have uk14 : ∀ y, K y ≠ 0 → K y ≠ 6 → UN R y → UN R14 y := fun y y1 y2 y3 => (UN.new (uk12 y y1 y2 y3)).put (fun z => y1 (by rw [← mo12 y y1, ← z]; exact hq14)) eR14
  have ar14 : K q14 = 0 := Classical.byContradiction fun z => z (by rw [← mo12 q14 z]; exact hq14)
  have c14 := c12.row (n := 4) (kd := 58) (k := 9) (by decide) hq14 rfl (by simp) eR14
  generalize va_up K12 q14 (58) = K14 at c14 u14 mo14 ⊢
  generalize va_up len12 q14 4 = len14 at c14 ⊢
  generalize z2 I12 q14 0 = I14 at c14 ⊢
  generalize z2 J12 q14 0 = J14
  refine r_aload_n hC dX1_init_53 0 rfl ?_
  refine r_iconst hC (v := (4)) dX1_init_54 (by decide) (by decide) (fun z15 ez15 tz15 => ?_)
  refine r_newarray hC (atype := .int) (ty := .int) (kd := 59) (t := 1) (N := 4) rfl mT_1_152 rfl rfl rfl (by decide) (fun _ h => h) (4, arE 1 (K14, len14, fun _ _ => 0, fun _ _ => 0, fun _ _ => none) 0) rfl (ha_1 4 _ _) (nlt_0 (by omega)) (cl_of (by omega)) (by decide) (by decide) (by decide) dX1_init_55 (fun q16 hq16 => ?_)
  refine r_putrF hC 10 (ci := 1) hNm rfl u1_in tyX1_ok nmX1 (by decide) mT_1_212 rfl rfl rfl rfl dX1_init_57 (c14.kq hq16) rfl rfl (fun R16 eR16 => ?_)
  have u16 := (UU.new (kd := 59) u14 hq16 (by first | decide | omega)).put (Or.inl (UN.fresh u14 hq16)) (by rw [va_up_self]; first | decide | omega) eR16
  have un16 := (UN.new un14).put (fun z => c14.ne0 (by rw [← z]; exact hq16)) eR16
  have mo16 : ∀ y, K y ≠ 0 → va_up K14 q16 (59) y = K y := fun y hy => kupy hq16 (mo14 y hy) hy
  have uk16 : ∀ y, K y ≠ 0 → K y ≠ 6 → UN R y → UN R16 y := fun y y1 y2 y3 => (UN.new (uk14 y y1 y2 y3)).put (fun z => y1 (by rw [← mo14 y y1, ← z]; exact hq16)) eR16
  have ar16 : K q16 = 0 := Classical.byContradiction fun z => z (by rw [← mo14 q16 z]; exact hq16)
  have c16 := c14.row (n := 4) (kd := 59) (k := 10) (by decide) hq16 rfl (by simp) eR16
  generalize va_up K14 q16 (59) = K16 at c16 u16 mo16 ⊢
  generalize va_up len14 q16 4 = len16 at c16 ⊢
  generalize z2 I14 q16 0 = I16 at c16 ⊢
  generalize z2 J14 q16 0 = J16
  refine r_aload_n hC dX1_init_60 0 rfl ?_
  refine r_iconst hC (v := (4)) dX1_init_61 (by decide) (by decide) (fun z17 ez17 tz17 => ?_)
  refine r_newarray hC (atype := .int) (ty := .int) (kd := 60) (t := 1) (N := 4) rfl mT_1_152 rfl rfl rfl (by decide) (fun _ h => h) (4, arE 1 (K16, len16, fun _ _ => 0, fun _ _ => 0, fun _ _ => none) 0) rfl (ha_1 4 _ _) (nlt_0 (by omega)) (cl_of (by omega)) (by decide) (by decide) (by decide) dX1_init_62 (fun q18 hq18 => ?_)
  refine r_putrF hC 11 (ci := 1) hNm rfl u1_in tyX1_ok nmX1 (by decide) mT_1_215 rfl rfl rfl rfl dX1_init_64 (c16.kq hq18) rfl rfl (fun R18 eR18 => ?_)
  have u18 := (UU.new (kd := 60) u16 hq18 (by first | decide | omega)).put (Or.inl (UN.fresh u16 hq18)) (by rw [va_up_self]; first | decide | omega) eR18
  have un18 := (UN.new un16).put (fun z => c16.ne0 (by rw [← z]; exact hq18)) eR18
  have mo18 : ∀ y, K y ≠ 0 → va_up K16 q18 (60) y = K y := fun y hy => kupy hq18 (mo16 y hy) hy
  have uk18 : ∀ y, K y ≠ 0 → K y ≠ 6 → UN R y → UN R18 y := fun y y1 y2 y3 => (UN.new (uk16 y y1 y2 y3)).put (fun z => y1 (by rw [← mo16 y y1, ← z]; exact hq18)) eR18
  have ar18 : K q18 = 0 := Classical.byContradiction fun z => z (by rw [← mo16 q18 z]; exact hq18)
  have c18 := c16.row (n := 4) (kd := 60) (k := 11) (by decide) hq18 rfl (by simp) eR18
  generalize va_up K16 q18 (60) = K18 at c18 u18 mo18 ⊢
  generalize va_up len16 q18 4 = len18 at c18 ⊢
  generalize z2 I16 q18 0 = I18 at c18 ⊢
  generalize z2 J16 q18 0 = J18
  refine r_aload_n hC dX1_init_67 0 rfl ?_
  refine r_iconst hC (v := (4)) dX1_init_68 (by decide) (by decide) (fun z19 ez19 tz19 => ?_)
  refine r_newarray hC (atype := .int) (ty := .int) (kd := 61) (t := 1) (N := 4) rfl mT_1_152 rfl rfl rfl (by decide) (fun _ h => h) (4, arE 1 (K18, len18, fun _ _ => 0, fun _ _ => 0, fun _ _ => none) 0) rfl (ha_1 4 _ _) (nlt_0 (by omega)) (cl_of (by omega)) (by decide) (by decide) (by decide) dX1_init_69 (fun q20 hq20 => ?_)
  refine r_putrF hC 13 (ci := 1) hNm rfl u1_in tyX1_ok nmX1 (by decide) mT_1_221 rfl rfl rfl rfl dX1_init_71 (c18.kq hq20) rfl rfl (fun R20 eR20 => ?_)
  have u20 := (UU.new (kd := 61) u18 hq20 (by first | decide | omega)).put (Or.inl (UN.fresh u18 hq20)) (by rw [va_up_self]; first | decide | omega) eR20
  have un20 := (UN.new un18).put (fun z => c18.ne0 (by rw [← z]; exact hq20)) eR20
  have mo20 : ∀ y, K y ≠ 0 → va_up K18 q20 (61) y = K y := fun y hy => kupy hq20 (mo18 y hy) hy
  have uk20 : ∀ y, K y ≠ 0 → K y ≠ 6 → UN R y → UN R20 y := fun y y1 y2 y3 => (UN.new (uk18 y y1 y2 y3)).put (fun z => y1 (by rw [← mo18 y y1, ← z]; exact hq20)) eR20
  have ar20 : K q20 = 0 := Classical.byContradiction fun z => z (by rw [← mo18 q20 z]; exact hq20)
  have c20 := c18.row (n := 4) (kd := 61) (k := 13) (by decide) hq20 rfl (by simp) eR20
  generalize va_up K18 q20 (61) = K20 at c20 u20 mo20 ⊢
  generalize va_up len18 q20 4 = len20 at c20 ⊢
  generalize z2 I18 q20 0 = I20 at c20 ⊢
  generalize z2 J18 q20 0 = J20
  refine r_aload_n hC dX1_init_74 0 rfl ?_
  refine r_iconst hC (v := (4)) dX1_init_75 (by decide) (by decide) (fun z21 ez21 tz21 => ?_)
  refine r_newarray hC (atype := .int) (ty := .int) (kd := 62) (t := 1) (N := 4) rfl mT_1_152 rfl rfl rfl (by decide) (fun _ h => h) (4, arE 1 (K20, len20, fun _ _ => 0, fun _ _ => 0, fun _ _ => none) 0) rfl (ha_1 4 _ _) (nlt_0 (by omega)) (cl_of (by omega)) (by decide) (by decide) (by decide) dX1_init_76 (fun q22 hq22 => ?_)
  refine r_putrF hC 14 (ci := 1) hNm rfl u1_in tyX1_ok nmX1 (by decide) mT_1_224 rfl rfl rfl rfl dX1_init_78 (c20.kq hq22) rfl rfl (fun R22 eR22 => ?_)
  have u22 := (UU.new (kd := 62) u20 hq22 (by first | decide | omega)).put (Or.inl (UN.fresh u20 hq22)) (by rw [va_up_self]; first | decide | omega) eR22
  have un22 := (UN.new un20).put (fun z => c20.ne0 (by rw [← z]; exact hq22)) eR22
  have mo22 : ∀ y, K y ≠ 0 → va_up K20 q22 (62) y = K y := fun y hy => kupy hq22 (mo20 y hy) hy
  have uk22 : ∀ y, K y ≠ 0 → K y ≠ 6 → UN R y → UN R22 y := fun y y1 y2 y3 => (UN.new (uk20 y y1 y2 y3)).put (fun z => y1 (by rw [← mo20 y y1, ← z]; exact hq22)) eR22
  have ar22 : K q22 = 0 := Classical.byContradiction fun z => z (by rw [← mo20 q22 z]; exact hq22)
  have c22 := c20.row (n := 4) (kd := 62) (k := 14) (by decide) hq22 rfl (by simp) eR22
  generalize va_up K20 q22 (62) = K22 at c22 u22 mo22 ⊢
  generalize va_up len20 q22 4 = len22 at c22 ⊢
  generalize z2 I20 q22 0 = I22 at c22 ⊢
  generalize z2 J20 q22 0 = J22
  refine r_iconst hC (v := (0)) dX1_init_81 (by decide) (by decide) (fun z23 ez23 tz23 => ?_)
  refine r_istore_n hC (lv' := [(1, .int z23), (0, .ref a0)]) dX1_init_82 (by decide) rfl ?_
  have fl24 : Fil q12 0 5 K22 R22 := fun i hi => absurd hi (by omega)
  refine r_iload_n hC dX1_init_83 0 rfl ?_
  refine r_bipush hC (v := (6)) dX1_init_84 (by decide) (by decide) (fun z25 ez25 tz25 => ?_)
  refine r_icmp_ge hC (tgt := 108) dX1_init_86 (by decide) (fun cc26 => absurd cc26 (by omega)) (fun cc26 => ?_)
  refine r_aload_n hC dX1_init_89 1 rfl ?_
  have ha27 := c22.2.2.2.1 (7, q12, 35, 6) (by simp)
  refine r_getr hC 7 (ci := 1) rfl u1_in (by decide) mT_1_203 dX1_init_90 c22.2.1 rfl rfl ha27.1 ?_
  refine r_iload_n hC dX1_init_93 0 rfl ?_
  refine r_new hC (ci := 4) (ty := tyX4) rfl u4_in tyX4_ok df4 mT_1_153 mT_1_155 mT_1_7 rfl (by decide) (by decide) dX1_init_94 (fun q28 hq28 => ?_)
  refine r_dup hC dX1_init_97 rfl ?_
  refine r_callIN hC (As := []) (rest := [.ref q28, .int z23, .ref q12]) (c_X4_init g (xL X) _ _ _ _ _ (c22.1.growO hq28 rfl) q28 (va_up_self _ _ _) (by funext j; exact z2_self _ _ _ _) (fun j => z2_self _ _ _ _) (UU.new (kd := 21 + 4) u22 hq28 (by decide)) (UN.fresh u22 hq28)) mT_1_158 mT_1_7 nM_2 mT_1_157 rfl okX4_init ⟨by decide, by decide⟩ rfl rfl (Nat.le_of_ble_eq_true rfl) ⟨by decide, by decide⟩ dX1_init_98 (aV5 (F := fun st M => P g X 2 101 [(1, .int z23), (0, .ref a0)] st _ _ M) fun M29 h29 => ?_)
  obtain ⟨K29, len29, I29, J29, R29⟩ := M29
  obtain ⟨h29, u29, uq29, uy29⟩ := h29
  dsimp only at u29 uq29 uy29
  have mo29 : ∀ y, K y ≠ 0 → K29 y = K y := fun y hy => (made_oldK hq28 h29 y (by rw [mo22 y hy]; exact hy)).trans (mo22 y hy)
  have un29 : UN R29 a0 := uy29 a0 (by rw [c22.kq hq28]; omega) (by rw [c22.kq hq28]; omega) (un22.new)
  have uk29 : ∀ y, K y ≠ 0 → K y ≠ 6 → UN R y → UN R29 y := fun y y1 y2 y3 => uy29 y (by rw [kupy hq28 (mo22 y y1) y1]; exact y1) (by rw [kupy hq28 (mo22 y y1) y1]; exact y2) (UN.new (uk22 y y1 y2 y3))
  obtain ⟨c29, hk29, hqa29, hz29⟩ := c22.after hq28 h29
  show P g X 2 101 [(1, .int z23), (0, .ref a0)] [.ref q28, .int z23, .ref q12] _ _ (K29, len29, I29, J29, R29)
  obtain ⟨fl29, ka29, la29⟩ := fl24.after (by rw [ha27.2.1]; exact Nat.succ_ne_zero _) hq28 h29
  have kb29 : K29 q12 = 35 := ka29.trans ha27.2.1
  have lb29 : len29 q12 = 6 := la29.trans ha27.2.2.2
  refine r_aastore hC (ci := 4) (t := 5) (by rw [kb29]; decide) (by rw [kb29]; rfl) (by rw [kb29]; rfl) (by decide) (by rw [hk29]; rfl) rfl (by omega) (by rw [lb29]; omega) dX1_init_101 (fun R30 eR30 => ?_)
  rw [cl_of (z := z23) (n := 0) (by omega)] at eR30
  have u30 := u29.put (Or.inl uq29) (by rw [hk29]; exact Nat.succ_ne_zero _) eR30
  have un30 := un29.put hqa29 eR30
  have uk30 : ∀ y, K y ≠ 0 → K y ≠ 6 → UN R y → UN R30 y := fun y y1 y2 y3 => (uk29 y y1 y2 y3).put (fun z => y1 (by rw [← mo22 y y1, ← z]; exact hq28)) eR30
  obtain ⟨c30, fl30⟩ := c29.elem (b := q12) kb29 rfl ha27.2.2.1.1 hz0q12 fl29 hk29 (by decide) eR30
  obtain ⟨w31, ew31⟩ : ∃ z : Int32, z = z23 + Int32.ofInt 1 := ⟨_, rfl⟩
  refine r_iinc hC (j := 0) (v := w31) (lv' := [(1, .int w31), (0, .ref a0)]) dX1_init_102 rfl (by rw [ew31]) (by decide) rfl ?_
  have tw31 : w31.toInt = 1 := by rw [ew31, ti_add (b := Int32.ofInt 1) (by show _ ≤ _ + (1 : Int); omega) (by show _ + (1 : Int) ≤ _; omega)]; show _ + (1 : Int) = _; omega
  refine r_goto hC (tgt := 83) dX1_init_105 (by decide) ?_
  refine r_iload_n hC dX1_init_83 0 rfl ?_
  refine r_bipush hC (v := (6)) dX1_init_84 (by decide) (by decide) (fun z32 ez32 tz32 => ?_)
  refine r_icmp_ge hC (tgt := 108) dX1_init_86 (by decide) (fun cc33 => absurd cc33 (by omega)) (fun cc33 => ?_)
  refine r_aload_n hC dX1_init_89 1 rfl ?_
  have ha34 := c30.2.2.2.1 (7, q12, 35, 6) (by simp)
  refine r_getr hC 7 (ci := 1) rfl u1_in (by decide) mT_1_203 dX1_init_90 c30.2.1 rfl rfl ha34.1 ?_
  refine r_iload_n hC dX1_init_93 0 rfl ?_
  refine r_new hC (ci := 4) (ty := tyX4) rfl u4_in tyX4_ok df4 mT_1_153 mT_1_155 mT_1_7 rfl (by decide) (by decide) dX1_init_94 (fun q35 hq35 => ?_)
  refine r_dup hC dX1_init_97 rfl ?_
  refine r_callIN hC (As := []) (rest := [.ref q35, .int w31, .ref q12]) (c_X4_init g (xL X) _ _ _ _ _ (c30.1.growO hq35 rfl) q35 (va_up_self _ _ _) (by funext j; exact z2_self _ _ _ _) (fun j => z2_self _ _ _ _) (UU.new (kd := 21 + 4) u30 hq35 (by decide)) (UN.fresh u30 hq35)) mT_1_158 mT_1_7 nM_2 mT_1_157 rfl okX4_init ⟨by decide, by decide⟩ rfl rfl (Nat.le_of_ble_eq_true rfl) ⟨by decide, by decide⟩ dX1_init_98 (aV5 (F := fun st M => P g X 2 101 [(1, .int w31), (0, .ref a0)] st _ _ M) fun M36 h36 => ?_)
  obtain ⟨K36, len36, I36, J36, R36⟩ := M36
  obtain ⟨h36, u36, uq36, uy36⟩ := h36
  dsimp only at u36 uq36 uy36
  have mo36 : ∀ y, K y ≠ 0 → K36 y = K y := fun y hy => (made_oldK hq35 h36 y (by rw [mo29 y hy]; exact hy)).trans (mo29 y hy)
  have un36 : UN R36 a0 := uy36 a0 (by rw [c30.kq hq35]; omega) (by rw [c30.kq hq35]; omega) (un30.new)
  have uk36 : ∀ y, K y ≠ 0 → K y ≠ 6 → UN R y → UN R36 y := fun y y1 y2 y3 => uy36 y (by rw [kupy hq35 (mo29 y y1) y1]; exact y1) (by rw [kupy hq35 (mo29 y y1) y1]; exact y2) (UN.new (uk30 y y1 y2 y3))
  obtain ⟨c36, hk36, hqa36, hz36⟩ := c30.after hq35 h36
  show P g X 2 101 [(1, .int w31), (0, .ref a0)] [.ref q35, .int w31, .ref q12] _ _ (K36, len36, I36, J36, R36)
  obtain ⟨fl36, ka36, la36⟩ := fl30.after (by rw [ha34.2.1]; exact Nat.succ_ne_zero _) hq35 h36
  have kb36 : K36 q12 = 35 := ka36.trans ha34.2.1
  have lb36 : len36 q12 = 6 := la36.trans ha34.2.2.2
  refine r_aastore hC (ci := 4) (t := 5) (by rw [kb36]; decide) (by rw [kb36]; rfl) (by rw [kb36]; rfl) (by decide) (by rw [hk36]; rfl) rfl (by omega) (by rw [lb36]; omega) dX1_init_101 (fun R37 eR37 => ?_)
  rw [cl_of (z := w31) (n := 1) (by omega)] at eR37
  have u37 := u36.put (Or.inl uq36) (by rw [hk36]; exact Nat.succ_ne_zero _) eR37
  have un37 := un36.put hqa36 eR37
  have uk37 : ∀ y, K y ≠ 0 → K y ≠ 6 → UN R y → UN R37 y := fun y y1 y2 y3 => (uk36 y y1 y2 y3).put (fun z => y1 (by rw [← mo29 y y1, ← z]; exact hq35)) eR37
  obtain ⟨c37, fl37⟩ := c36.elem (b := q12) kb36 rfl ha34.2.2.1.1 hz0q12 fl36 hk36 (by decide) eR37
  obtain ⟨w38, ew38⟩ : ∃ z : Int32, z = w31 + Int32.ofInt 1 := ⟨_, rfl⟩
  refine r_iinc hC (j := 0) (v := w38) (lv' := [(1, .int w38), (0, .ref a0)]) dX1_init_102 rfl (by rw [ew38]) (by decide) rfl ?_
  have tw38 : w38.toInt = 2 := by rw [ew38, ti_add (b := Int32.ofInt 1) (by show _ ≤ _ + (1 : Int); omega) (by show _ + (1 : Int) ≤ _; omega)]; show _ + (1 : Int) = _; omega
  refine r_goto hC (tgt := 83) dX1_init_105 (by decide) ?_
  refine r_iload_n hC dX1_init_83 0 rfl ?_
  refine r_bipush hC (v := (6)) dX1_init_84 (by decide) (by decide) (fun z39 ez39 tz39 => ?_)
  refine r_icmp_ge hC (tgt := 108) dX1_init_86 (by decide) (fun cc40 => absurd cc40 (by omega)) (fun cc40 => ?_)
  refine r_aload_n hC dX1_init_89 1 rfl ?_
  have ha41 := c37.2.2.2.1 (7, q12, 35, 6) (by simp)
  refine r_getr hC 7 (ci := 1) rfl u1_in (by decide) mT_1_203 dX1_init_90 c37.2.1 rfl rfl ha41.1 ?_
  refine r_iload_n hC dX1_init_93 0 rfl ?_
  refine r_new hC (ci := 4) (ty := tyX4) rfl u4_in tyX4_ok df4 mT_1_153 mT_1_155 mT_1_7 rfl (by decide) (by decide) dX1_init_94 (fun q42 hq42 => ?_)
  refine r_dup hC dX1_init_97 rfl ?_
  refine r_callIN hC (As := []) (rest := [.ref q42, .int w38, .ref q12]) (c_X4_init g (xL X) _ _ _ _ _ (c37.1.growO hq42 rfl) q42 (va_up_self _ _ _) (by funext j; exact z2_self _ _ _ _) (fun j => z2_self _ _ _ _) (UU.new (kd := 21 + 4) u37 hq42 (by decide)) (UN.fresh u37 hq42)) mT_1_158 mT_1_7 nM_2 mT_1_157 rfl okX4_init ⟨by decide, by decide⟩ rfl rfl (Nat.le_of_ble_eq_true rfl) ⟨by decide, by decide⟩ dX1_init_98 (aV5 (F := fun st M => P g X 2 101 [(1, .int w38), (0, .ref a0)] st _ _ M) fun M43 h43 => ?_)
  obtain ⟨K43, len43, I43, J43, R43⟩ := M43
  obtain ⟨h43, u43, uq43, uy43⟩ := h43
  dsimp only at u43 uq43 uy43
  have mo43 : ∀ y, K y ≠ 0 → K43 y = K y := fun y hy => (made_oldK hq42 h43 y (by rw [mo36 y hy]; exact hy)).trans (mo36 y hy)
  have un43 : UN R43 a0 := uy43 a0 (by rw [c37.kq hq42]; omega) (by rw [c37.kq hq42]; omega) (un37.new)
  have uk43 : ∀ y, K y ≠ 0 → K y ≠ 6 → UN R y → UN R43 y := fun y y1 y2 y3 => uy43 y (by rw [kupy hq42 (mo36 y y1) y1]; exact y1) (by rw [kupy hq42 (mo36 y y1) y1]; exact y2) (UN.new (uk37 y y1 y2 y3))
  obtain ⟨c43, hk43, hqa43, hz43⟩ := c37.after hq42 h43
  show P g X 2 101 [(1, .int w38), (0, .ref a0)] [.ref q42, .int w38, .ref q12] _ _ (K43, len43, I43, J43, R43)
  obtain ⟨fl43, ka43, la43⟩ := fl37.after (by rw [ha41.2.1]; exact Nat.succ_ne_zero _) hq42 h43
  have kb43 : K43 q12 = 35 := ka43.trans ha41.2.1
  have lb43 : len43 q12 = 6 := la43.trans ha41.2.2.2
  refine r_aastore hC (ci := 4) (t := 5) (by rw [kb43]; decide) (by rw [kb43]; rfl) (by rw [kb43]; rfl) (by decide) (by rw [hk43]; rfl) rfl (by omega) (by rw [lb43]; omega) dX1_init_101 (fun R44 eR44 => ?_)
  rw [cl_of (z := w38) (n := 2) (by omega)] at eR44
  have u44 := u43.put (Or.inl uq43) (by rw [hk43]; exact Nat.succ_ne_zero _) eR44
  have un44 := un43.put hqa43 eR44
  have uk44 : ∀ y, K y ≠ 0 → K y ≠ 6 → UN R y → UN R44 y := fun y y1 y2 y3 => (uk43 y y1 y2 y3).put (fun z => y1 (by rw [← mo36 y y1, ← z]; exact hq42)) eR44
  obtain ⟨c44, fl44⟩ := c43.elem (b := q12) kb43 rfl ha41.2.2.1.1 hz0q12 fl43 hk43 (by decide) eR44
  obtain ⟨w45, ew45⟩ : ∃ z : Int32, z = w38 + Int32.ofInt 1 := ⟨_, rfl⟩
  refine r_iinc hC (j := 0) (v := w45) (lv' := [(1, .int w45), (0, .ref a0)]) dX1_init_102 rfl (by rw [ew45]) (by decide) rfl ?_
  have tw45 : w45.toInt = 3 := by rw [ew45, ti_add (b := Int32.ofInt 1) (by show _ ≤ _ + (1 : Int); omega) (by show _ + (1 : Int) ≤ _; omega)]; show _ + (1 : Int) = _; omega
  refine r_goto hC (tgt := 83) dX1_init_105 (by decide) ?_
  refine r_iload_n hC dX1_init_83 0 rfl ?_
  refine r_bipush hC (v := (6)) dX1_init_84 (by decide) (by decide) (fun z46 ez46 tz46 => ?_)
  refine r_icmp_ge hC (tgt := 108) dX1_init_86 (by decide) (fun cc47 => absurd cc47 (by omega)) (fun cc47 => ?_)
  refine r_aload_n hC dX1_init_89 1 rfl ?_
  have ha48 := c44.2.2.2.1 (7, q12, 35, 6) (by simp)
  refine r_getr hC 7 (ci := 1) rfl u1_in (by decide) mT_1_203 dX1_init_90 c44.2.1 rfl rfl ha48.1 ?_
  refine r_iload_n hC dX1_init_93 0 rfl ?_
  refine r_new hC (ci := 4) (ty := tyX4) rfl u4_in tyX4_ok df4 mT_1_153 mT_1_155 mT_1_7 rfl (by decide) (by decide) dX1_init_94 (fun q49 hq49 => ?_)
  refine r_dup hC dX1_init_97 rfl ?_
  refine r_callIN hC (As := []) (rest := [.ref q49, .int w45, .ref q12]) (c_X4_init g (xL X) _ _ _ _ _ (c44.1.growO hq49 rfl) q49 (va_up_self _ _ _) (by funext j; exact z2_self _ _ _ _) (fun j => z2_self _ _ _ _) (UU.new (kd := 21 + 4) u44 hq49 (by decide)) (UN.fresh u44 hq49)) mT_1_158 mT_1_7 nM_2 mT_1_157 rfl okX4_init ⟨by decide, by decide⟩ rfl rfl (Nat.le_of_ble_eq_true rfl) ⟨by decide, by decide⟩ dX1_init_98 (aV5 (F := fun st M => P g X 2 101 [(1, .int w45), (0, .ref a0)] st _ _ M) fun M50 h50 => ?_)
  obtain ⟨K50, len50, I50, J50, R50⟩ := M50
  obtain ⟨h50, u50, uq50, uy50⟩ := h50
  dsimp only at u50 uq50 uy50
  have mo50 : ∀ y, K y ≠ 0 → K50 y = K y := fun y hy => (made_oldK hq49 h50 y (by rw [mo43 y hy]; exact hy)).trans (mo43 y hy)
  have un50 : UN R50 a0 := uy50 a0 (by rw [c44.kq hq49]; omega) (by rw [c44.kq hq49]; omega) (un44.new)
  have uk50 : ∀ y, K y ≠ 0 → K y ≠ 6 → UN R y → UN R50 y := fun y y1 y2 y3 => uy50 y (by rw [kupy hq49 (mo43 y y1) y1]; exact y1) (by rw [kupy hq49 (mo43 y y1) y1]; exact y2) (UN.new (uk44 y y1 y2 y3))
  obtain ⟨c50, hk50, hqa50, hz50⟩ := c44.after hq49 h50
  show P g X 2 101 [(1, .int w45), (0, .ref a0)] [.ref q49, .int w45, .ref q12] _ _ (K50, len50, I50, J50, R50)
  obtain ⟨fl50, ka50, la50⟩ := fl44.after (by rw [ha48.2.1]; exact Nat.succ_ne_zero _) hq49 h50
  have kb50 : K50 q12 = 35 := ka50.trans ha48.2.1
  have lb50 : len50 q12 = 6 := la50.trans ha48.2.2.2
  refine r_aastore hC (ci := 4) (t := 5) (by rw [kb50]; decide) (by rw [kb50]; rfl) (by rw [kb50]; rfl) (by decide) (by rw [hk50]; rfl) rfl (by omega) (by rw [lb50]; omega) dX1_init_101 (fun R51 eR51 => ?_)
  rw [cl_of (z := w45) (n := 3) (by omega)] at eR51
  have u51 := u50.put (Or.inl uq50) (by rw [hk50]; exact Nat.succ_ne_zero _) eR51
  have un51 := un50.put hqa50 eR51
  have uk51 : ∀ y, K y ≠ 0 → K y ≠ 6 → UN R y → UN R51 y := fun y y1 y2 y3 => (uk50 y y1 y2 y3).put (fun z => y1 (by rw [← mo43 y y1, ← z]; exact hq49)) eR51
  obtain ⟨c51, fl51⟩ := c50.elem (b := q12) kb50 rfl ha48.2.2.1.1 hz0q12 fl50 hk50 (by decide) eR51
  obtain ⟨w52, ew52⟩ : ∃ z : Int32, z = w45 + Int32.ofInt 1 := ⟨_, rfl⟩
  refine r_iinc hC (j := 0) (v := w52) (lv' := [(1, .int w52), (0, .ref a0)]) dX1_init_102 rfl (by rw [ew52]) (by decide) rfl ?_
  have tw52 : w52.toInt = 4 := by rw [ew52, ti_add (b := Int32.ofInt 1) (by show _ ≤ _ + (1 : Int); omega) (by show _ + (1 : Int) ≤ _; omega)]; show _ + (1 : Int) = _; omega
  refine r_goto hC (tgt := 83) dX1_init_105 (by decide) ?_
  refine r_iload_n hC dX1_init_83 0 rfl ?_
  refine r_bipush hC (v := (6)) dX1_init_84 (by decide) (by decide) (fun z53 ez53 tz53 => ?_)
  refine r_icmp_ge hC (tgt := 108) dX1_init_86 (by decide) (fun cc54 => absurd cc54 (by omega)) (fun cc54 => ?_)
  refine r_aload_n hC dX1_init_89 1 rfl ?_
  have ha55 := c51.2.2.2.1 (7, q12, 35, 6) (by simp)
  refine r_getr hC 7 (ci := 1) rfl u1_in (by decide) mT_1_203 dX1_init_90 c51.2.1 rfl rfl ha55.1 ?_
  refine r_iload_n hC dX1_init_93 0 rfl ?_
  refine r_new hC (ci := 4) (ty := tyX4) rfl u4_in tyX4_ok df4 mT_1_153 mT_1_155 mT_1_7 rfl (by decide) (by decide) dX1_init_94 (fun q56 hq56 => ?_)
  refine r_dup hC dX1_init_97 rfl ?_
  refine r_callIN hC (As := []) (rest := [.ref q56, .int w52, .ref q12]) (c_X4_init g (xL X) _ _ _ _ _ (c51.1.growO hq56 rfl) q56 (va_up_self _ _ _) (by funext j; exact z2_self _ _ _ _) (fun j => z2_self _ _ _ _) (UU.new (kd := 21 + 4) u51 hq56 (by decide)) (UN.fresh u51 hq56)) mT_1_158 mT_1_7 nM_2 mT_1_157 rfl okX4_init ⟨by decide, by decide⟩ rfl rfl (Nat.le_of_ble_eq_true rfl) ⟨by decide, by decide⟩ dX1_init_98 (aV5 (F := fun st M => P g X 2 101 [(1, .int w52), (0, .ref a0)] st _ _ M) fun M57 h57 => ?_)
  obtain ⟨K57, len57, I57, J57, R57⟩ := M57
  obtain ⟨h57, u57, uq57, uy57⟩ := h57
  dsimp only at u57 uq57 uy57
  have mo57 : ∀ y, K y ≠ 0 → K57 y = K y := fun y hy => (made_oldK hq56 h57 y (by rw [mo50 y hy]; exact hy)).trans (mo50 y hy)
  have un57 : UN R57 a0 := uy57 a0 (by rw [c51.kq hq56]; omega) (by rw [c51.kq hq56]; omega) (un51.new)
  have uk57 : ∀ y, K y ≠ 0 → K y ≠ 6 → UN R y → UN R57 y := fun y y1 y2 y3 => uy57 y (by rw [kupy hq56 (mo50 y y1) y1]; exact y1) (by rw [kupy hq56 (mo50 y y1) y1]; exact y2) (UN.new (uk51 y y1 y2 y3))
  obtain ⟨c57, hk57, hqa57, hz57⟩ := c51.after hq56 h57
  show P g X 2 101 [(1, .int w52), (0, .ref a0)] [.ref q56, .int w52, .ref q12] _ _ (K57, len57, I57, J57, R57)
  obtain ⟨fl57, ka57, la57⟩ := fl51.after (by rw [ha55.2.1]; exact Nat.succ_ne_zero _) hq56 h57
  have kb57 : K57 q12 = 35 := ka57.trans ha55.2.1
  have lb57 : len57 q12 = 6 := la57.trans ha55.2.2.2
  refine r_aastore hC (ci := 4) (t := 5) (by rw [kb57]; decide) (by rw [kb57]; rfl) (by rw [kb57]; rfl) (by decide) (by rw [hk57]; rfl) rfl (by omega) (by rw [lb57]; omega) dX1_init_101 (fun R58 eR58 => ?_)
  rw [cl_of (z := w52) (n := 4) (by omega)] at eR58
  have u58 := u57.put (Or.inl uq57) (by rw [hk57]; exact Nat.succ_ne_zero _) eR58
  have un58 := un57.put hqa57 eR58
  have uk58 : ∀ y, K y ≠ 0 → K y ≠ 6 → UN R y → UN R58 y := fun y y1 y2 y3 => (uk57 y y1 y2 y3).put (fun z => y1 (by rw [← mo50 y y1, ← z]; exact hq56)) eR58
  obtain ⟨c58, fl58⟩ := c57.elem (b := q12) kb57 rfl ha55.2.2.1.1 hz0q12 fl57 hk57 (by decide) eR58
  obtain ⟨w59, ew59⟩ : ∃ z : Int32, z = w52 + Int32.ofInt 1 := ⟨_, rfl⟩
  refine r_iinc hC (j := 0) (v := w59) (lv' := [(1, .int w59), (0, .ref a0)]) dX1_init_102 rfl (by rw [ew59]) (by decide) rfl ?_
  have tw59 : w59.toInt = 5 := by rw [ew59, ti_add (b := Int32.ofInt 1) (by show _ ≤ _ + (1 : Int); omega) (by show _ + (1 : Int) ≤ _; omega)]; show _ + (1 : Int) = _; omega
  refine r_goto hC (tgt := 83) dX1_init_105 (by decide) ?_
  refine r_iload_n hC dX1_init_83 0 rfl ?_
  refine r_bipush hC (v := (6)) dX1_init_84 (by decide) (by decide) (fun z60 ez60 tz60 => ?_)
  refine r_icmp_ge hC (tgt := 108) dX1_init_86 (by decide) (fun cc61 => absurd cc61 (by omega)) (fun cc61 => ?_)
  refine r_aload_n hC dX1_init_89 1 rfl ?_
  have ha62 := c58.2.2.2.1 (7, q12, 35, 6) (by simp)
  refine r_getr hC 7 (ci := 1) rfl u1_in (by decide) mT_1_203 dX1_init_90 c58.2.1 rfl rfl ha62.1 ?_
  refine r_iload_n hC dX1_init_93 0 rfl ?_
  refine r_new hC (ci := 4) (ty := tyX4) rfl u4_in tyX4_ok df4 mT_1_153 mT_1_155 mT_1_7 rfl (by decide) (by decide) dX1_init_94 (fun q63 hq63 => ?_)
  refine r_dup hC dX1_init_97 rfl ?_
  refine r_callIN hC (As := []) (rest := [.ref q63, .int w59, .ref q12]) (c_X4_init g (xL X) _ _ _ _ _ (c58.1.growO hq63 rfl) q63 (va_up_self _ _ _) (by funext j; exact z2_self _ _ _ _) (fun j => z2_self _ _ _ _) (UU.new (kd := 21 + 4) u58 hq63 (by decide)) (UN.fresh u58 hq63)) mT_1_158 mT_1_7 nM_2 mT_1_157 rfl okX4_init ⟨by decide, by decide⟩ rfl rfl (Nat.le_of_ble_eq_true rfl) ⟨by decide, by decide⟩ dX1_init_98 (aV5 (F := fun st M => P g X 2 101 [(1, .int w59), (0, .ref a0)] st _ _ M) fun M64 h64 => ?_)
  obtain ⟨K64, len64, I64, J64, R64⟩ := M64
  obtain ⟨h64, u64, uq64, uy64⟩ := h64
  dsimp only at u64 uq64 uy64
  have mo64 : ∀ y, K y ≠ 0 → K64 y = K y := fun y hy => (made_oldK hq63 h64 y (by rw [mo57 y hy]; exact hy)).trans (mo57 y hy)
  have un64 : UN R64 a0 := uy64 a0 (by rw [c58.kq hq63]; omega) (by rw [c58.kq hq63]; omega) (un58.new)
  have uk64 : ∀ y, K y ≠ 0 → K y ≠ 6 → UN R y → UN R64 y := fun y y1 y2 y3 => uy64 y (by rw [kupy hq63 (mo57 y y1) y1]; exact y1) (by rw [kupy hq63 (mo57 y y1) y1]; exact y2) (UN.new (uk58 y y1 y2 y3))
  obtain ⟨c64, hk64, hqa64, hz64⟩ := c58.after hq63 h64
  show P g X 2 101 [(1, .int w59), (0, .ref a0)] [.ref q63, .int w59, .ref q12] _ _ (K64, len64, I64, J64, R64)
  obtain ⟨fl64, ka64, la64⟩ := fl58.after (by rw [ha62.2.1]; exact Nat.succ_ne_zero _) hq63 h64
  have kb64 : K64 q12 = 35 := ka64.trans ha62.2.1
  have lb64 : len64 q12 = 6 := la64.trans ha62.2.2.2
  refine r_aastore hC (ci := 4) (t := 5) (by rw [kb64]; decide) (by rw [kb64]; rfl) (by rw [kb64]; rfl) (by decide) (by rw [hk64]; rfl) rfl (by omega) (by rw [lb64]; omega) dX1_init_101 (fun R65 eR65 => ?_)
  rw [cl_of (z := w59) (n := 5) (by omega)] at eR65
  have u65 := u64.put (Or.inl uq64) (by rw [hk64]; exact Nat.succ_ne_zero _) eR65
  have un65 := un64.put hqa64 eR65
  have uk65 : ∀ y, K y ≠ 0 → K y ≠ 6 → UN R y → UN R65 y := fun y y1 y2 y3 => (uk64 y y1 y2 y3).put (fun z => y1 (by rw [← mo57 y y1, ← z]; exact hq63)) eR65
  obtain ⟨c65, fl65⟩ := c64.elem (b := q12) kb64 rfl ha62.2.2.1.1 hz0q12 fl64 hk64 (by decide) eR65
  obtain ⟨w66, ew66⟩ : ∃ z : Int32, z = w59 + Int32.ofInt 1 := ⟨_, rfl⟩
  refine r_iinc hC (j := 0) (v := w66) (lv' := [(1, .int w66), (0, .ref a0)]) dX1_init_102 rfl (by rw [ew66]) (by decide) rfl ?_
  have tw66 : w66.toInt = 6 := by rw [ew66, ti_add (b := Int32.ofInt 1) (by show _ ≤ _ + (1 : Int); omega) (by show _ + (1 : Int) ≤ _; omega)]; show _ + (1 : Int) = _; omega
  refine r_goto hC (tgt := 83) dX1_init_105 (by decide) ?_
  refine r_iload_n hC dX1_init_83 0 rfl ?_
  refine r_bipush hC (v := (6)) dX1_init_84 (by decide) (by decide) (fun z67 ez67 tz67 => ?_)
  refine r_icmp_ge hC (tgt := 108) dX1_init_86 (by decide) (fun cc68 => ?_) (fun cc68 => absurd cc68 (by omega))
  refine r_sealA (q := q12) (t := 5) (by decide) (c65.2.2.2.1 (7, q12, 35, 6) (by simp)).2.1 ?_
  have ksl69 := (c65.2.2.2.1 (7, q12, 35, 6) (by simp)).2.1
  dsimp only at ksl69
  have c70 := c65.perm (F' := [(7, q12, 35, 6), (14, q22, 62, 4), (13, q20, 61, 4), (11, q18, 60, 4), (10, q16, 59, 4), (9, q14, 58, 4), (5, q10, 57, 60), (3, q8, 56, 5), (2, q6, 55, 5), (0, q1, 3, len2 q1)]) (by simp) (by simp)
  have c69 := c70.full (n := 5) (by decide) fl65 hz0q12 (by simp)
  have u69 := UU.seal (a := q12) (v := 45) u65 (by rw [ksl69]; decide) (by decide)
  have mo69 : ∀ y, K y ≠ 0 → va_up K64 q12 45 y = K y := fun y hy => by rw [va_up_ne _ _ (fun z => hy (by rw [z]; exact ar12))]; exact mo64 y hy
  generalize va_up K64 q12 45 = K69 at c69 u69 mo69 ⊢
  obtain ⟨oK71q1, -, oI71q1, oR71q1⟩ := c69.2.2.2.2.2 q1 (by rw [hk2]; exact Nat.succ_ne_zero _) hqa2
  have kk71q1 := oK71q1.trans hk2
  have ii71q1 := oI71q1.trans z_q1
  have cB71 := c69
  have cx71 := c69.rebase
  refine r_seal (q := a0) (ci := 1) cx71.2.1 rfl rfl ?_
  have md72 := cx71.made (J := J64) (by decide) (by simp [refT]) (rz1) (fun z => absurd z (by decide)) (fun z => absurd z (by decide)) (fun z => absurd z (by decide))
  exact r_vret hC hQ hlk hr (by decide) (by decide) dX1_init_108 ⟨rfl, ⟨(cB4.madeT (cB71.madeT md72)), q1, (cx71.2.2.2.1 (0, q1, 3, len2 q1) (by simp)).1, by show va_up K69 a0 (1 + 1) q1 = _; rw [va_up_ne _ _ hqa2]; exact kk71q1, hq1, ii71q1⟩, UU.seal (v := 1 + 1) u69 (by rw [cx71.2.1]; decide) (by decide), un65, uk65⟩
abbrev rmX9_init : Room := { frames := 1, cells := 17, slots := 203, locals := 20 }
set_option maxHeartbeats 4000000 in
set_option maxRecDepth 100000 in
theorem c_X9_init (g : GG) (l : Launch) (K len : Nat → Nat) (I : Nat → Nat → Int32) (J : Nat → Nat → Int64) (R : Nat → Nat → Option Nat) (hs : Sf K len I R) (a0 : Nat) (ka0 : K a0 = 21 + 9) (hz : I a0 = fun _ => 0) (hn : ∀ k, R a0 k = none) (hu : UU K R) (hun : UN R a0) : Ct g l yX9_init cX9_init 1 none rmX9_init [.ref a0] (K, len, I, J, R) (pV5 (fun M' => (Made K len I R a0 9 (va_up (fun _ => 0) 0 (-1)) M' ∧ ∃ rn, M'.2.2.2.2 a0 15 = some rn ∧ M'.2.2.1 rn = fun _ => 0) ∧ Own K R a0 M')) := by
  refine Ct_intro (by decide +kernel) (Nat.le_of_ble_eq_true rfl) (fun X hC hL hKK hNm hr hlk hQ => ?_)
  subst hL
  have hC : Cx g X cX9_init "HillTapModel$Hill" 1 rmX9_init := hC
  show P g X 1 0 [(0, .ref a0)] [] 0 0 (K, len, I, J, R)
  have c0 : Con K len I R a0 9 (fun _ => 0) [] K len I R := Con.start hs ka0 hz hn
  have mo0 : ∀ y, K y ≠ 0 → K y = K y := fun _ _ => rfl
  have uk0 : ∀ y, K y ≠ 0 → K y ≠ 6 → UN R y → UN R y := fun _ _ _ h => h
  refine r_aload_n hC dX9_init_0 0 rfl ?_
  refine r_objInit hC mT_5_91 mT_1_28 mT_1_29 dX9_init_1 (by decide) (by decide) ?_
  refine r_aload_n hC dX9_init_4 0 rfl ?_
  refine r_iconst hC (v := (-1)) dX9_init_5 (by decide) (by decide) (fun z1 ez1 tz1 => ?_)
  refine r_puti hC 0 (ci := 9) rfl u9_in tyX9_ok nmX9 (by decide) mT_5_92 rfl rfl rfl dX9_init_6 c0.2.1 rfl rfl (fun I2 eI2 => ?_)
  rw [ez1] at eI2
  have c2 := c0.num (by decide) eI2
  refine r_aload_n hC dX9_init_9 0 rfl ?_
  refine r_iconst hC (v := (5)) dX9_init_10 (by decide) (by decide) (fun z3 ez3 tz3 => ?_)
  refine r_newarray hC (atype := .int) (ty := .int) (kd := 70) (t := 1) (N := 5) rfl mT_1_152 rfl rfl rfl (by decide) (fun _ h => h) (5, arE 1 (K, len, fun _ _ => 0, fun _ _ => 0, fun _ _ => none) 0) rfl (ha_1 5 _ _) (nlt_0 (by omega)) (cl_of (by omega)) (by decide) (by decide) (by decide) dX9_init_11 (fun q4 hq4 => ?_)
  refine r_putrF hC 11 (ci := 9) hNm rfl u9_in tyX9_ok nmX9 (by decide) mT_5_105 rfl rfl rfl rfl dX9_init_13 (c2.kq hq4) rfl rfl (fun R4 eR4 => ?_)
  have u4 := (UU.new (kd := 70) hu hq4 (by first | decide | omega)).put (Or.inl (UN.fresh hu hq4)) (by rw [va_up_self]; first | decide | omega) eR4
  have un4 := (UN.new hun).put (fun z => c2.ne0 (by rw [← z]; exact hq4)) eR4
  have mo4 : ∀ y, K y ≠ 0 → va_up K q4 (70) y = K y := fun y hy => kupy hq4 (mo0 y hy) hy
  have uk4 : ∀ y, K y ≠ 0 → K y ≠ 6 → UN R y → UN R4 y := fun y y1 y2 y3 => (UN.new (uk0 y y1 y2 y3)).put (fun z => y1 (by rw [← mo0 y y1, ← z]; exact hq4)) eR4
  have ar4 : K q4 = 0 := Classical.byContradiction fun z => z (by rw [← mo0 q4 z]; exact hq4)
  have c4 := c2.row (n := 5) (kd := 70) (k := 11) (by decide) hq4 rfl (by simp) eR4
  generalize va_up K q4 (70) = K4 at c4 u4 mo4 ⊢
  generalize va_up len q4 5 = len4 at c4 ⊢
  generalize z2 I2 q4 0 = I4 at c4 ⊢
  generalize z2 J q4 0 = J4
  refine r_aload_n hC dX9_init_16 0 rfl ?_
  refine r_iconst hC (v := (5)) dX9_init_17 (by decide) (by decide) (fun z5 ez5 tz5 => ?_)
  refine r_newarray hC (atype := .int) (ty := .int) (kd := 71) (t := 1) (N := 5) rfl mT_1_152 rfl rfl rfl (by decide) (fun _ h => h) (5, arE 1 (K4, len4, fun _ _ => 0, fun _ _ => 0, fun _ _ => none) 0) rfl (ha_1 5 _ _) (nlt_0 (by omega)) (cl_of (by omega)) (by decide) (by decide) (by decide) dX9_init_18 (fun q6 hq6 => ?_)
  refine r_putrF hC 12 (ci := 9) hNm rfl u9_in tyX9_ok nmX9 (by decide) mT_5_107 rfl rfl rfl rfl dX9_init_20 (c4.kq hq6) rfl rfl (fun R6 eR6 => ?_)
  have u6 := (UU.new (kd := 71) u4 hq6 (by first | decide | omega)).put (Or.inl (UN.fresh u4 hq6)) (by rw [va_up_self]; first | decide | omega) eR6
  have un6 := (UN.new un4).put (fun z => c4.ne0 (by rw [← z]; exact hq6)) eR6
  have mo6 : ∀ y, K y ≠ 0 → va_up K4 q6 (71) y = K y := fun y hy => kupy hq6 (mo4 y hy) hy
  have uk6 : ∀ y, K y ≠ 0 → K y ≠ 6 → UN R y → UN R6 y := fun y y1 y2 y3 => (UN.new (uk4 y y1 y2 y3)).put (fun z => y1 (by rw [← mo4 y y1, ← z]; exact hq6)) eR6
  have ar6 : K q6 = 0 := Classical.byContradiction fun z => z (by rw [← mo4 q6 z]; exact hq6)
  have c6 := c4.row (n := 5) (kd := 71) (k := 12) (by decide) hq6 rfl (by simp) eR6
  generalize va_up K4 q6 (71) = K6 at c6 u6 mo6 ⊢
  generalize va_up len4 q6 5 = len6 at c6 ⊢
  generalize z2 I4 q6 0 = I6 at c6 ⊢
  generalize z2 J4 q6 0 = J6
  refine r_aload_n hC dX9_init_23 0 rfl ?_
  refine r_bipush hC (v := (16)) dX9_init_24 (by decide) (by decide) (fun z7 ez7 tz7 => ?_)
  refine r_newarray hC (atype := .int) (ty := .int) (kd := 72) (t := 1) (N := 16) rfl mT_1_152 rfl rfl rfl (by decide) (fun _ h => h) (16, arE 1 (K6, len6, fun _ _ => 0, fun _ _ => 0, fun _ _ => none) 0) rfl (ha_1 16 _ _) (nlt_0 (by omega)) (cl_of (by omega)) (by decide) (by decide) (by decide) dX9_init_26 (fun q8 hq8 => ?_)
  refine r_putrF hC 13 (ci := 9) hNm rfl u9_in tyX9_ok nmX9 (by decide) mT_5_109 rfl rfl rfl rfl dX9_init_28 (c6.kq hq8) rfl rfl (fun R8 eR8 => ?_)
  have u8 := (UU.new (kd := 72) u6 hq8 (by first | decide | omega)).put (Or.inl (UN.fresh u6 hq8)) (by rw [va_up_self]; first | decide | omega) eR8
  have un8 := (UN.new un6).put (fun z => c6.ne0 (by rw [← z]; exact hq8)) eR8
  have mo8 : ∀ y, K y ≠ 0 → va_up K6 q8 (72) y = K y := fun y hy => kupy hq8 (mo6 y hy) hy
  have uk8 : ∀ y, K y ≠ 0 → K y ≠ 6 → UN R y → UN R8 y := fun y y1 y2 y3 => (UN.new (uk6 y y1 y2 y3)).put (fun z => y1 (by rw [← mo6 y y1, ← z]; exact hq8)) eR8
  have ar8 : K q8 = 0 := Classical.byContradiction fun z => z (by rw [← mo6 q8 z]; exact hq8)
  have c8 := c6.row (n := 16) (kd := 72) (k := 13) (by decide) hq8 rfl (by simp) eR8
  generalize va_up K6 q8 (72) = K8 at c8 u8 mo8 ⊢
  generalize va_up len6 q8 16 = len8 at c8 ⊢
  generalize z2 I6 q8 0 = I8 at c8 ⊢
  generalize z2 J6 q8 0 = J8
  refine r_aload_n hC dX9_init_31 0 rfl ?_
  refine r_bipush hC (v := (16)) dX9_init_32 (by decide) (by decide) (fun z9 ez9 tz9 => ?_)
  refine r_newarray hC (atype := .int) (ty := .int) (kd := 73) (t := 1) (N := 16) rfl mT_1_152 rfl rfl rfl (by decide) (fun _ h => h) (16, arE 1 (K8, len8, fun _ _ => 0, fun _ _ => 0, fun _ _ => none) 0) rfl (ha_1 16 _ _) (nlt_0 (by omega)) (cl_of (by omega)) (by decide) (by decide) (by decide) dX9_init_34 (fun q10 hq10 => ?_)
  refine r_putrF hC 14 (ci := 9) hNm rfl u9_in tyX9_ok nmX9 (by decide) mT_5_111 rfl rfl rfl rfl dX9_init_36 (c8.kq hq10) rfl rfl (fun R10 eR10 => ?_)
  have u10 := (UU.new (kd := 73) u8 hq10 (by first | decide | omega)).put (Or.inl (UN.fresh u8 hq10)) (by rw [va_up_self]; first | decide | omega) eR10
  have un10 := (UN.new un8).put (fun z => c8.ne0 (by rw [← z]; exact hq10)) eR10
  have mo10 : ∀ y, K y ≠ 0 → va_up K8 q10 (73) y = K y := fun y hy => kupy hq10 (mo8 y hy) hy
  have uk10 : ∀ y, K y ≠ 0 → K y ≠ 6 → UN R y → UN R10 y := fun y y1 y2 y3 => (UN.new (uk8 y y1 y2 y3)).put (fun z => y1 (by rw [← mo8 y y1, ← z]; exact hq10)) eR10
  have ar10 : K q10 = 0 := Classical.byContradiction fun z => z (by rw [← mo8 q10 z]; exact hq10)
  have c10 := c8.row (n := 16) (kd := 73) (k := 14) (by decide) hq10 rfl (by simp) eR10
  generalize va_up K8 q10 (73) = K10 at c10 u10 mo10 ⊢
  generalize va_up len8 q10 16 = len10 at c10 ⊢
  generalize z2 I8 q10 0 = I10 at c10 ⊢
  generalize z2 J8 q10 0 = J10
  refine r_aload_n hC dX9_init_39 0 rfl ?_
  refine r_bipush hC (v := (60)) dX9_init_40 (by decide) (by decide) (fun z11 ez11 tz11 => ?_)
  refine r_newarray hC (atype := .int) (ty := .int) (kd := 74) (t := 1) (N := 60) rfl mT_1_152 rfl rfl rfl (by decide) (fun _ h => h) (60, arE 1 (K10, len10, fun _ _ => 0, fun _ _ => 0, fun _ _ => none) 0) rfl (ha_1 60 _ _) (nlt_0 (by omega)) (cl_of (by omega)) (by decide) (by decide) (by decide) dX9_init_42 (fun q12 hq12 => ?_)
  refine r_putrF hC 15 (ci := 9) hNm rfl u9_in tyX9_ok nmX9 (by decide) mT_5_113 rfl rfl rfl rfl dX9_init_44 (c10.kq hq12) rfl rfl (fun R12 eR12 => ?_)
  have u12 := (UU.new (kd := 74) u10 hq12 (by first | decide | omega)).put (Or.inl (UN.fresh u10 hq12)) (by rw [va_up_self]; first | decide | omega) eR12
  have un12 := (UN.new un10).put (fun z => c10.ne0 (by rw [← z]; exact hq12)) eR12
  have mo12 : ∀ y, K y ≠ 0 → va_up K10 q12 (74) y = K y := fun y hy => kupy hq12 (mo10 y hy) hy
  have uk12 : ∀ y, K y ≠ 0 → K y ≠ 6 → UN R y → UN R12 y := fun y y1 y2 y3 => (UN.new (uk10 y y1 y2 y3)).put (fun z => y1 (by rw [← mo10 y y1, ← z]; exact hq12)) eR12
  have ar12 : K q12 = 0 := Classical.byContradiction fun z => z (by rw [← mo10 q12 z]; exact hq12)
  have c12 := c10.row (n := 60) (kd := 74) (k := 15) (by decide) hq12 rfl (by simp) eR12
  have rz12 : z2 I10 q12 0 q12 = fun _ => 0 := funext fun j => z2_self _ _ _ _
  generalize va_up K10 q12 (74) = K12 at c12 u12 mo12 ⊢
  generalize va_up len10 q12 60 = len12 at c12 ⊢
  generalize z2 I10 q12 0 = I12 at c12 rz12 ⊢
  generalize z2 J10 q12 0 = J12
  refine r_aload_n hC dX9_init_47 0 rfl ?_
  refine r_bipush hC (v := (6)) dX9_init_48 (by decide) (by decide) (fun z13 ez13 tz13 => ?_)
  refine r_newarray hC (atype := .int) (ty := .int) (kd := 75) (t := 1) (N := 6) rfl mT_1_152 rfl rfl rfl (by decide) (fun _ h => h) (6, arE 1 (K12, len12, fun _ _ => 0, fun _ _ => 0, fun _ _ => none) 0) rfl (ha_1 6 _ _) (nlt_0 (by omega)) (cl_of (by omega)) (by decide) (by decide) (by decide) dX9_init_50 (fun q14 hq14 => ?_)
  refine r_putrF hC 16 (ci := 9) hNm rfl u9_in tyX9_ok nmX9 (by decide) mT_5_115 rfl rfl rfl rfl dX9_init_52 (c12.kq hq14) rfl rfl (fun R14 eR14 => ?_)
  have u14 := (UU.new (kd := 75) u12 hq14 (by first | decide | omega)).put (Or.inl (UN.fresh u12 hq14)) (by rw [va_up_self]; first | decide | omega) eR14
  have un14 := (UN.new un12).put (fun z => c12.ne0 (by rw [← z]; exact hq14)) eR14
  have mo14 : ∀ y, K y ≠ 0 → va_up K12 q14 (75) y = K y := fun y hy => kupy hq14 (mo12 y hy) hy
  have uk14 : ∀ y, K y ≠ 0 → K y ≠ 6 → UN R y → UN R14 y := fun y y1 y2 y3 => (UN.new (uk12 y y1 y2 y3)).put (fun z => y1 (by rw [← mo12 y y1, ← z]; exact hq14)) eR14
  have ar14 : K q14 = 0 := Classical.byContradiction fun z => z (by rw [← mo12 q14 z]; exact hq14)
  have c14 := c12.row (n := 6) (kd := 75) (k := 16) (by decide) hq14 rfl (by simp) eR14
  have rz14 : z2 I12 q14 0 q12 = fun _ => 0 := funext fun j => (z2_ne _ _ _ (fun z => by have h9 : K12 q12 = 74 := (c12.2.2.2.1 (15, q12, 74, 60) (by simp)).2.1; rw [z, hq14] at h9; exact absurd h9 (by decide))).trans (congrFun rz12 j)
  generalize va_up K12 q14 (75) = K14 at c14 u14 mo14 ⊢
  generalize va_up len12 q14 6 = len14 at c14 ⊢
  generalize z2 I12 q14 0 = I14 at c14 rz14 ⊢
  generalize z2 J12 q14 0 = J14
  refine r_aload_n hC dX9_init_55 0 rfl ?_
  refine r_bipush hC (v := (6)) dX9_init_56 (by decide) (by decide) (fun z15 ez15 tz15 => ?_)
  refine r_newarray hC (atype := .int) (ty := .int) (kd := 1000 + 2 * a0) (t := 1) (N := 6) rfl mT_1_152 rfl (kOb (by omega)) (kAb (by omega)) (by omega) (fun _ h => h) (6, arE 1 (K14, len14, fun _ _ => 0, fun _ _ => 0, fun _ _ => none) 0) rfl (ha_1 6 _ _) (nlt_0 (by omega)) (cl_of (by omega)) (by decide) (by decide) (by decide) dX9_init_58 (fun q16 hq16 => ?_)
  refine r_putrF hC 17 (ci := 9) hNm rfl u9_in tyX9_ok nmX9 (by decide) mT_5_117 rfl rfl rfl rfl dX9_init_60 (c14.kq hq16) rfl rfl (fun R16 eR16 => ?_)
  have u16 := (UU.new (kd := 1000 + 2 * a0) u14 hq16 (by first | decide | omega)).put (Or.inl (UN.fresh u14 hq16)) (by rw [va_up_self]; first | decide | omega) eR16
  have un16 := (UN.new un14).put (fun z => c14.ne0 (by rw [← z]; exact hq16)) eR16
  have mo16 : ∀ y, K y ≠ 0 → va_up K14 q16 (1000 + 2 * a0) y = K y := fun y hy => kupy hq16 (mo14 y hy) hy
  have uk16 : ∀ y, K y ≠ 0 → K y ≠ 6 → UN R y → UN R16 y := fun y y1 y2 y3 => (UN.new (uk14 y y1 y2 y3)).put (fun z => y1 (by rw [← mo14 y y1, ← z]; exact hq16)) eR16
  have ar16 : K q16 = 0 := Classical.byContradiction fun z => z (by rw [← mo14 q16 z]; exact hq16)
  have c16 := c14.row (n := 6) (kd := 1000 + 2 * a0) (k := 17) (by decide) hq16 (pk_big (by omega)) (by simp) eR16
  have rz16 : z2 I14 q16 0 q12 = fun _ => 0 := funext fun j => (z2_ne _ _ _ (fun z => by have h9 : K14 q12 = 74 := (c14.2.2.2.1 (15, q12, 74, 60) (by simp)).2.1; rw [z, hq16] at h9; exact absurd h9 (by decide))).trans (congrFun rz14 j)
  generalize va_up K14 q16 (1000 + 2 * a0) = K16 at c16 u16 mo16 ⊢
  generalize va_up len14 q16 6 = len16 at c16 ⊢
  generalize z2 I14 q16 0 = I16 at c16 rz16 ⊢
  generalize z2 J14 q16 0 = J16
  refine r_aload_n hC dX9_init_63 0 rfl ?_
  refine r_bipush hC (v := (6)) dX9_init_64 (by decide) (by decide) (fun z17 ez17 tz17 => ?_)
  refine r_newarray hC (atype := .int) (ty := .int) (kd := 76) (t := 1) (N := 6) rfl mT_1_152 rfl rfl rfl (by decide) (fun _ h => h) (6, arE 1 (K16, len16, fun _ _ => 0, fun _ _ => 0, fun _ _ => none) 0) rfl (ha_1 6 _ _) (nlt_0 (by omega)) (cl_of (by omega)) (by decide) (by decide) (by decide) dX9_init_66 (fun q18 hq18 => ?_)
  refine r_putrF hC 18 (ci := 9) hNm rfl u9_in tyX9_ok nmX9 (by decide) mT_5_119 rfl rfl rfl rfl dX9_init_68 (c16.kq hq18) rfl rfl (fun R18 eR18 => ?_)
  have u18 := (UU.new (kd := 76) u16 hq18 (by first | decide | omega)).put (Or.inl (UN.fresh u16 hq18)) (by rw [va_up_self]; first | decide | omega) eR18
  have un18 := (UN.new un16).put (fun z => c16.ne0 (by rw [← z]; exact hq18)) eR18
  have mo18 : ∀ y, K y ≠ 0 → va_up K16 q18 (76) y = K y := fun y hy => kupy hq18 (mo16 y hy) hy
  have uk18 : ∀ y, K y ≠ 0 → K y ≠ 6 → UN R y → UN R18 y := fun y y1 y2 y3 => (UN.new (uk16 y y1 y2 y3)).put (fun z => y1 (by rw [← mo16 y y1, ← z]; exact hq18)) eR18
  have ar18 : K q18 = 0 := Classical.byContradiction fun z => z (by rw [← mo16 q18 z]; exact hq18)
  have c18 := c16.row (n := 6) (kd := 76) (k := 18) (by decide) hq18 rfl (by simp) eR18
  have rz18 : z2 I16 q18 0 q12 = fun _ => 0 := funext fun j => (z2_ne _ _ _ (fun z => by have h9 : K16 q12 = 74 := (c16.2.2.2.1 (15, q12, 74, 60) (by simp)).2.1; rw [z, hq18] at h9; exact absurd h9 (by decide))).trans (congrFun rz16 j)
  generalize va_up K16 q18 (76) = K18 at c18 u18 mo18 ⊢
  generalize va_up len16 q18 6 = len18 at c18 ⊢
  generalize z2 I16 q18 0 = I18 at c18 rz18 ⊢
  generalize z2 J16 q18 0 = J18
  refine r_aload_n hC dX9_init_71 0 rfl ?_
  refine r_bipush hC (v := (6)) dX9_init_72 (by decide) (by decide) (fun z19 ez19 tz19 => ?_)
  refine r_newarray hC (atype := .int) (ty := .int) (kd := 1001 + 2 * a0) (t := 1) (N := 6) rfl mT_1_152 rfl (kOb (by omega)) (kAb (by omega)) (by omega) (fun _ h => h) (6, arE 1 (K18, len18, fun _ _ => 0, fun _ _ => 0, fun _ _ => none) 0) rfl (ha_1 6 _ _) (nlt_0 (by omega)) (cl_of (by omega)) (by decide) (by decide) (by decide) dX9_init_74 (fun q20 hq20 => ?_)
  refine r_putrF hC 19 (ci := 9) hNm rfl u9_in tyX9_ok nmX9 (by decide) mT_5_121 rfl rfl rfl rfl dX9_init_76 (c18.kq hq20) rfl rfl (fun R20 eR20 => ?_)
  have u20 := (UU.new (kd := 1001 + 2 * a0) u18 hq20 (by first | decide | omega)).put (Or.inl (UN.fresh u18 hq20)) (by rw [va_up_self]; first | decide | omega) eR20
  have un20 := (UN.new un18).put (fun z => c18.ne0 (by rw [← z]; exact hq20)) eR20
  have mo20 : ∀ y, K y ≠ 0 → va_up K18 q20 (1001 + 2 * a0) y = K y := fun y hy => kupy hq20 (mo18 y hy) hy
  have uk20 : ∀ y, K y ≠ 0 → K y ≠ 6 → UN R y → UN R20 y := fun y y1 y2 y3 => (UN.new (uk18 y y1 y2 y3)).put (fun z => y1 (by rw [← mo18 y y1, ← z]; exact hq20)) eR20
  have ar20 : K q20 = 0 := Classical.byContradiction fun z => z (by rw [← mo18 q20 z]; exact hq20)
  have c20 := c18.row (n := 6) (kd := 1001 + 2 * a0) (k := 19) (by decide) hq20 (pk_big (by omega)) (by simp) eR20
  have rz20 : z2 I18 q20 0 q12 = fun _ => 0 := funext fun j => (z2_ne _ _ _ (fun z => by have h9 : K18 q12 = 74 := (c18.2.2.2.1 (15, q12, 74, 60) (by simp)).2.1; rw [z, hq20] at h9; exact absurd h9 (by decide))).trans (congrFun rz18 j)
  generalize va_up K18 q20 (1001 + 2 * a0) = K20 at c20 u20 mo20 ⊢
  generalize va_up len18 q20 6 = len20 at c20 ⊢
  generalize z2 I18 q20 0 = I20 at c20 rz20 ⊢
  generalize z2 J18 q20 0 = J20
  refine r_aload_n hC dX9_init_79 0 rfl ?_
  refine r_iconst hC (v := (4)) dX9_init_80 (by decide) (by decide) (fun z21 ez21 tz21 => ?_)
  refine r_newarray hC (atype := .int) (ty := .int) (kd := 77) (t := 1) (N := 4) rfl mT_1_152 rfl rfl rfl (by decide) (fun _ h => h) (4, arE 1 (K20, len20, fun _ _ => 0, fun _ _ => 0, fun _ _ => none) 0) rfl (ha_1 4 _ _) (nlt_0 (by omega)) (cl_of (by omega)) (by decide) (by decide) (by decide) dX9_init_81 (fun q22 hq22 => ?_)
  refine r_putrF hC 20 (ci := 9) hNm rfl u9_in tyX9_ok nmX9 (by decide) mT_5_123 rfl rfl rfl rfl dX9_init_83 (c20.kq hq22) rfl rfl (fun R22 eR22 => ?_)
  have u22 := (UU.new (kd := 77) u20 hq22 (by first | decide | omega)).put (Or.inl (UN.fresh u20 hq22)) (by rw [va_up_self]; first | decide | omega) eR22
  have un22 := (UN.new un20).put (fun z => c20.ne0 (by rw [← z]; exact hq22)) eR22
  have mo22 : ∀ y, K y ≠ 0 → va_up K20 q22 (77) y = K y := fun y hy => kupy hq22 (mo20 y hy) hy
  have uk22 : ∀ y, K y ≠ 0 → K y ≠ 6 → UN R y → UN R22 y := fun y y1 y2 y3 => (UN.new (uk20 y y1 y2 y3)).put (fun z => y1 (by rw [← mo20 y y1, ← z]; exact hq22)) eR22
  have ar22 : K q22 = 0 := Classical.byContradiction fun z => z (by rw [← mo20 q22 z]; exact hq22)
  have c22 := c20.row (n := 4) (kd := 77) (k := 20) (by decide) hq22 rfl (by simp) eR22
  have rz22 : z2 I20 q22 0 q12 = fun _ => 0 := funext fun j => (z2_ne _ _ _ (fun z => by have h9 : K20 q12 = 74 := (c20.2.2.2.1 (15, q12, 74, 60) (by simp)).2.1; rw [z, hq22] at h9; exact absurd h9 (by decide))).trans (congrFun rz20 j)
  generalize va_up K20 q22 (77) = K22 at c22 u22 mo22 ⊢
  generalize va_up len20 q22 4 = len22 at c22 ⊢
  generalize z2 I20 q22 0 = I22 at c22 rz22 ⊢
  generalize z2 J20 q22 0 = J22
  refine r_aload_n hC dX9_init_86 0 rfl ?_
  refine r_iconst hC (v := (4)) dX9_init_87 (by decide) (by decide) (fun z23 ez23 tz23 => ?_)
  refine r_newarray hC (atype := .int) (ty := .int) (kd := 78) (t := 1) (N := 4) rfl mT_1_152 rfl rfl rfl (by decide) (fun _ h => h) (4, arE 1 (K22, len22, fun _ _ => 0, fun _ _ => 0, fun _ _ => none) 0) rfl (ha_1 4 _ _) (nlt_0 (by omega)) (cl_of (by omega)) (by decide) (by decide) (by decide) dX9_init_88 (fun q24 hq24 => ?_)
  refine r_putrF hC 21 (ci := 9) hNm rfl u9_in tyX9_ok nmX9 (by decide) mT_5_125 rfl rfl rfl rfl dX9_init_90 (c22.kq hq24) rfl rfl (fun R24 eR24 => ?_)
  have u24 := (UU.new (kd := 78) u22 hq24 (by first | decide | omega)).put (Or.inl (UN.fresh u22 hq24)) (by rw [va_up_self]; first | decide | omega) eR24
  have un24 := (UN.new un22).put (fun z => c22.ne0 (by rw [← z]; exact hq24)) eR24
  have mo24 : ∀ y, K y ≠ 0 → va_up K22 q24 (78) y = K y := fun y hy => kupy hq24 (mo22 y hy) hy
  have uk24 : ∀ y, K y ≠ 0 → K y ≠ 6 → UN R y → UN R24 y := fun y y1 y2 y3 => (UN.new (uk22 y y1 y2 y3)).put (fun z => y1 (by rw [← mo22 y y1, ← z]; exact hq24)) eR24
  have ar24 : K q24 = 0 := Classical.byContradiction fun z => z (by rw [← mo22 q24 z]; exact hq24)
  have c24 := c22.row (n := 4) (kd := 78) (k := 21) (by decide) hq24 rfl (by simp) eR24
  have rz24 : z2 I22 q24 0 q12 = fun _ => 0 := funext fun j => (z2_ne _ _ _ (fun z => by have h9 : K22 q12 = 74 := (c22.2.2.2.1 (15, q12, 74, 60) (by simp)).2.1; rw [z, hq24] at h9; exact absurd h9 (by decide))).trans (congrFun rz22 j)
  generalize va_up K22 q24 (78) = K24 at c24 u24 mo24 ⊢
  generalize va_up len22 q24 4 = len24 at c24 ⊢
  generalize z2 I22 q24 0 = I24 at c24 rz24 ⊢
  generalize z2 J22 q24 0 = J24
  refine r_aload_n hC dX9_init_93 0 rfl ?_
  refine r_iconst hC (v := (4)) dX9_init_94 (by decide) (by decide) (fun z25 ez25 tz25 => ?_)
  refine r_newarray hC (atype := .int) (ty := .int) (kd := 79) (t := 1) (N := 4) rfl mT_1_152 rfl rfl rfl (by decide) (fun _ h => h) (4, arE 1 (K24, len24, fun _ _ => 0, fun _ _ => 0, fun _ _ => none) 0) rfl (ha_1 4 _ _) (nlt_0 (by omega)) (cl_of (by omega)) (by decide) (by decide) (by decide) dX9_init_95 (fun q26 hq26 => ?_)
  refine r_putrF hC 22 (ci := 9) hNm rfl u9_in tyX9_ok nmX9 (by decide) mT_5_127 rfl rfl rfl rfl dX9_init_97 (c24.kq hq26) rfl rfl (fun R26 eR26 => ?_)
  have u26 := (UU.new (kd := 79) u24 hq26 (by first | decide | omega)).put (Or.inl (UN.fresh u24 hq26)) (by rw [va_up_self]; first | decide | omega) eR26
  have un26 := (UN.new un24).put (fun z => c24.ne0 (by rw [← z]; exact hq26)) eR26
  have mo26 : ∀ y, K y ≠ 0 → va_up K24 q26 (79) y = K y := fun y hy => kupy hq26 (mo24 y hy) hy
  have uk26 : ∀ y, K y ≠ 0 → K y ≠ 6 → UN R y → UN R26 y := fun y y1 y2 y3 => (UN.new (uk24 y y1 y2 y3)).put (fun z => y1 (by rw [← mo24 y y1, ← z]; exact hq26)) eR26
  have ar26 : K q26 = 0 := Classical.byContradiction fun z => z (by rw [← mo24 q26 z]; exact hq26)
  have c26 := c24.row (n := 4) (kd := 79) (k := 22) (by decide) hq26 rfl (by simp) eR26
  have rz26 : z2 I24 q26 0 q12 = fun _ => 0 := funext fun j => (z2_ne _ _ _ (fun z => by have h9 : K24 q12 = 74 := (c24.2.2.2.1 (15, q12, 74, 60) (by simp)).2.1; rw [z, hq26] at h9; exact absurd h9 (by decide))).trans (congrFun rz24 j)
  generalize va_up K24 q26 (79) = K26 at c26 u26 mo26 ⊢
  generalize va_up len24 q26 4 = len26 at c26 ⊢
  generalize z2 I24 q26 0 = I26 at c26 rz26 ⊢
  generalize z2 J24 q26 0 = J26
  refine r_aload_n hC dX9_init_100 0 rfl ?_
  refine r_iconst hC (v := (4)) dX9_init_101 (by decide) (by decide) (fun z27 ez27 tz27 => ?_)
  refine r_newarray hC (atype := .int) (ty := .int) (kd := 80) (t := 1) (N := 4) rfl mT_1_152 rfl rfl rfl (by decide) (fun _ h => h) (4, arE 1 (K26, len26, fun _ _ => 0, fun _ _ => 0, fun _ _ => none) 0) rfl (ha_1 4 _ _) (nlt_0 (by omega)) (cl_of (by omega)) (by decide) (by decide) (by decide) dX9_init_102 (fun q28 hq28 => ?_)
  refine r_putrF hC 23 (ci := 9) hNm rfl u9_in tyX9_ok nmX9 (by decide) mT_5_129 rfl rfl rfl rfl dX9_init_104 (c26.kq hq28) rfl rfl (fun R28 eR28 => ?_)
  have u28 := (UU.new (kd := 80) u26 hq28 (by first | decide | omega)).put (Or.inl (UN.fresh u26 hq28)) (by rw [va_up_self]; first | decide | omega) eR28
  have un28 := (UN.new un26).put (fun z => c26.ne0 (by rw [← z]; exact hq28)) eR28
  have mo28 : ∀ y, K y ≠ 0 → va_up K26 q28 (80) y = K y := fun y hy => kupy hq28 (mo26 y hy) hy
  have uk28 : ∀ y, K y ≠ 0 → K y ≠ 6 → UN R y → UN R28 y := fun y y1 y2 y3 => (UN.new (uk26 y y1 y2 y3)).put (fun z => y1 (by rw [← mo26 y y1, ← z]; exact hq28)) eR28
  have ar28 : K q28 = 0 := Classical.byContradiction fun z => z (by rw [← mo26 q28 z]; exact hq28)
  have c28 := c26.row (n := 4) (kd := 80) (k := 23) (by decide) hq28 rfl (by simp) eR28
  have rz28 : z2 I26 q28 0 q12 = fun _ => 0 := funext fun j => (z2_ne _ _ _ (fun z => by have h9 : K26 q12 = 74 := (c26.2.2.2.1 (15, q12, 74, 60) (by simp)).2.1; rw [z, hq28] at h9; exact absurd h9 (by decide))).trans (congrFun rz26 j)
  generalize va_up K26 q28 (80) = K28 at c28 u28 mo28 ⊢
  generalize va_up len26 q28 4 = len28 at c28 ⊢
  generalize z2 I26 q28 0 = I28 at c28 rz28 ⊢
  generalize z2 J26 q28 0 = J28
  refine r_aload_n hC dX9_init_107 0 rfl ?_
  refine r_iconst hC (v := (4)) dX9_init_108 (by decide) (by decide) (fun z29 ez29 tz29 => ?_)
  refine r_newarray hC (atype := .int) (ty := .int) (kd := 81) (t := 1) (N := 4) rfl mT_1_152 rfl rfl rfl (by decide) (fun _ h => h) (4, arE 1 (K28, len28, fun _ _ => 0, fun _ _ => 0, fun _ _ => none) 0) rfl (ha_1 4 _ _) (nlt_0 (by omega)) (cl_of (by omega)) (by decide) (by decide) (by decide) dX9_init_109 (fun q30 hq30 => ?_)
  refine r_putrF hC 24 (ci := 9) hNm rfl u9_in tyX9_ok nmX9 (by decide) mT_5_131 rfl rfl rfl rfl dX9_init_111 (c28.kq hq30) rfl rfl (fun R30 eR30 => ?_)
  have u30 := (UU.new (kd := 81) u28 hq30 (by first | decide | omega)).put (Or.inl (UN.fresh u28 hq30)) (by rw [va_up_self]; first | decide | omega) eR30
  have un30 := (UN.new un28).put (fun z => c28.ne0 (by rw [← z]; exact hq30)) eR30
  have mo30 : ∀ y, K y ≠ 0 → va_up K28 q30 (81) y = K y := fun y hy => kupy hq30 (mo28 y hy) hy
  have uk30 : ∀ y, K y ≠ 0 → K y ≠ 6 → UN R y → UN R30 y := fun y y1 y2 y3 => (UN.new (uk28 y y1 y2 y3)).put (fun z => y1 (by rw [← mo28 y y1, ← z]; exact hq30)) eR30
  have ar30 : K q30 = 0 := Classical.byContradiction fun z => z (by rw [← mo28 q30 z]; exact hq30)
  have c30 := c28.row (n := 4) (kd := 81) (k := 24) (by decide) hq30 rfl (by simp) eR30
  have rz30 : z2 I28 q30 0 q12 = fun _ => 0 := funext fun j => (z2_ne _ _ _ (fun z => by have h9 : K28 q12 = 74 := (c28.2.2.2.1 (15, q12, 74, 60) (by simp)).2.1; rw [z, hq30] at h9; exact absurd h9 (by decide))).trans (congrFun rz28 j)
  generalize va_up K28 q30 (81) = K30 at c30 u30 mo30 ⊢
  generalize va_up len28 q30 4 = len30 at c30 ⊢
  generalize z2 I28 q30 0 = I30 at c30 rz30 ⊢
  generalize z2 J28 q30 0 = J30
  refine r_aload_n hC dX9_init_114 0 rfl ?_
  refine r_bipush hC (v := (19)) dX9_init_115 (by decide) (by decide) (fun z31 ez31 tz31 => ?_)
  refine r_newarray hC (atype := .long) (ty := .long) (kd := 82) (t := 2) (N := 19) rfl mT_1_80 rfl rfl rfl (by decide) (fun _ h => h) (19, arE 2 (K30, len30, fun _ _ => 0, fun _ _ => 0, fun _ _ => none) 0) rfl (ha_2 19 _ _) (nlt_0 (by omega)) (cl_of (by omega)) (by decide) (by decide) (by decide) dX9_init_117 (fun q32 hq32 => ?_)
  refine r_putrF hC 25 (ci := 9) hNm rfl u9_in tyX9_ok nmX9 (by decide) mT_5_133 rfl rfl rfl rfl dX9_init_119 (c30.kq hq32) rfl rfl (fun R32 eR32 => ?_)
  have u32 := (UU.new (kd := 82) u30 hq32 (by first | decide | omega)).put (Or.inl (UN.fresh u30 hq32)) (by rw [va_up_self]; first | decide | omega) eR32
  have un32 := (UN.new un30).put (fun z => c30.ne0 (by rw [← z]; exact hq32)) eR32
  have mo32 : ∀ y, K y ≠ 0 → va_up K30 q32 (82) y = K y := fun y hy => kupy hq32 (mo30 y hy) hy
  have uk32 : ∀ y, K y ≠ 0 → K y ≠ 6 → UN R y → UN R32 y := fun y y1 y2 y3 => (UN.new (uk30 y y1 y2 y3)).put (fun z => y1 (by rw [← mo30 y y1, ← z]; exact hq32)) eR32
  have ar32 : K q32 = 0 := Classical.byContradiction fun z => z (by rw [← mo30 q32 z]; exact hq32)
  have c32 := c30.row (n := 19) (kd := 82) (k := 25) (by decide) hq32 rfl (by simp) eR32
  have rz32 : z2 I30 q32 0 q12 = fun _ => 0 := funext fun j => (z2_ne _ _ _ (fun z => by have h9 : K30 q12 = 74 := (c30.2.2.2.1 (15, q12, 74, 60) (by simp)).2.1; rw [z, hq32] at h9; exact absurd h9 (by decide))).trans (congrFun rz30 j)
  generalize va_up K30 q32 (82) = K32 at c32 u32 mo32 ⊢
  generalize va_up len30 q32 19 = len32 at c32 ⊢
  generalize z2 I30 q32 0 = I32 at c32 rz32 ⊢
  generalize z2 J30 q32 0 = J32
  refine r_aload_n hC dX9_init_122 0 rfl ?_
  refine r_bipush hC (v := (19)) dX9_init_123 (by decide) (by decide) (fun z33 ez33 tz33 => ?_)
  refine r_newarray hC (atype := .int) (ty := .int) (kd := 83) (t := 1) (N := 19) rfl mT_1_152 rfl rfl rfl (by decide) (fun _ h => h) (19, arE 1 (K32, len32, fun _ _ => 0, fun _ _ => 0, fun _ _ => none) 0) rfl (ha_1 19 _ _) (nlt_0 (by omega)) (cl_of (by omega)) (by decide) (by decide) (by decide) dX9_init_125 (fun q34 hq34 => ?_)
  refine r_putrF hC 26 (ci := 9) hNm rfl u9_in tyX9_ok nmX9 (by decide) mT_5_135 rfl rfl rfl rfl dX9_init_127 (c32.kq hq34) rfl rfl (fun R34 eR34 => ?_)
  have u34 := (UU.new (kd := 83) u32 hq34 (by first | decide | omega)).put (Or.inl (UN.fresh u32 hq34)) (by rw [va_up_self]; first | decide | omega) eR34
  have un34 := (UN.new un32).put (fun z => c32.ne0 (by rw [← z]; exact hq34)) eR34
  have mo34 : ∀ y, K y ≠ 0 → va_up K32 q34 (83) y = K y := fun y hy => kupy hq34 (mo32 y hy) hy
  have uk34 : ∀ y, K y ≠ 0 → K y ≠ 6 → UN R y → UN R34 y := fun y y1 y2 y3 => (UN.new (uk32 y y1 y2 y3)).put (fun z => y1 (by rw [← mo32 y y1, ← z]; exact hq34)) eR34
  have ar34 : K q34 = 0 := Classical.byContradiction fun z => z (by rw [← mo32 q34 z]; exact hq34)
  have c34 := c32.row (n := 19) (kd := 83) (k := 26) (by decide) hq34 rfl (by simp) eR34
  have rz34 : z2 I32 q34 0 q12 = fun _ => 0 := funext fun j => (z2_ne _ _ _ (fun z => by have h9 : K32 q12 = 74 := (c32.2.2.2.1 (15, q12, 74, 60) (by simp)).2.1; rw [z, hq34] at h9; exact absurd h9 (by decide))).trans (congrFun rz32 j)
  generalize va_up K32 q34 (83) = K34 at c34 u34 mo34 ⊢
  generalize va_up len32 q34 19 = len34 at c34 ⊢
  generalize z2 I32 q34 0 = I34 at c34 rz34 ⊢
  generalize z2 J32 q34 0 = J34
  refine r_aload_n hC dX9_init_130 0 rfl ?_
  refine r_bipush hC (v := (19)) dX9_init_131 (by decide) (by decide) (fun z35 ez35 tz35 => ?_)
  refine r_newarray hC (atype := .int) (ty := .int) (kd := 84) (t := 1) (N := 19) rfl mT_1_152 rfl rfl rfl (by decide) (fun _ h => h) (19, arE 1 (K34, len34, fun _ _ => 0, fun _ _ => 0, fun _ _ => none) 0) rfl (ha_1 19 _ _) (nlt_0 (by omega)) (cl_of (by omega)) (by decide) (by decide) (by decide) dX9_init_133 (fun q36 hq36 => ?_)
  refine r_putrF hC 27 (ci := 9) hNm rfl u9_in tyX9_ok nmX9 (by decide) mT_5_137 rfl rfl rfl rfl dX9_init_135 (c34.kq hq36) rfl rfl (fun R36 eR36 => ?_)
  have u36 := (UU.new (kd := 84) u34 hq36 (by first | decide | omega)).put (Or.inl (UN.fresh u34 hq36)) (by rw [va_up_self]; first | decide | omega) eR36
  have un36 := (UN.new un34).put (fun z => c34.ne0 (by rw [← z]; exact hq36)) eR36
  have mo36 : ∀ y, K y ≠ 0 → va_up K34 q36 (84) y = K y := fun y hy => kupy hq36 (mo34 y hy) hy
  have uk36 : ∀ y, K y ≠ 0 → K y ≠ 6 → UN R y → UN R36 y := fun y y1 y2 y3 => (UN.new (uk34 y y1 y2 y3)).put (fun z => y1 (by rw [← mo34 y y1, ← z]; exact hq36)) eR36
  have ar36 : K q36 = 0 := Classical.byContradiction fun z => z (by rw [← mo34 q36 z]; exact hq36)
  have c36 := c34.row (n := 19) (kd := 84) (k := 27) (by decide) hq36 rfl (by simp) eR36
  have rz36 : z2 I34 q36 0 q12 = fun _ => 0 := funext fun j => (z2_ne _ _ _ (fun z => by have h9 : K34 q12 = 74 := (c34.2.2.2.1 (15, q12, 74, 60) (by simp)).2.1; rw [z, hq36] at h9; exact absurd h9 (by decide))).trans (congrFun rz34 j)
  generalize va_up K34 q36 (84) = K36 at c36 u36 mo36 ⊢
  generalize va_up len34 q36 19 = len36 at c36 ⊢
  generalize z2 I34 q36 0 = I36 at c36 rz36 ⊢
  generalize z2 J34 q36 0 = J36
  refine r_seal (q := a0) (ci := 9) c36.2.1 rfl rfl ?_
  have md37 := c36.made (J := J36) (by decide) (by simp [refT]) (rz9) (fun _ => by decide) (fun z => absurd z (by decide)) (fun _ => ⟨by decide, q16, q20, by simp, by simp⟩)
  exact r_vret hC hQ hlk hr (by decide) (by decide) dX9_init_138 ⟨rfl, ⟨md37, q12, (c36.2.2.2.1 (15, q12, 74, 60) (by simp)).1, rz36⟩, UU.seal (v := 1 + 9) u36 (by rw [c36.2.1]; decide) (by decide), un36, uk36⟩
abbrev rmX10_init : Room := { frames := 1, cells := 10, slots := 1962, locals := 20 }
set_option maxHeartbeats 4000000 in
set_option maxRecDepth 100000 in
theorem c_X10_init (g : GG) (l : Launch) (K len : Nat → Nat) (I : Nat → Nat → Int32) (J : Nat → Nat → Int64) (R : Nat → Nat → Option Nat) (hs : Sf K len I R) (a0 : Nat) (ka0 : K a0 = 21 + 10) (hz : I a0 = fun _ => 0) (hn : ∀ k, R a0 k = none) (hu : UU K R) (hun : UN R a0) : Ct g l yX10_init cX10_init 1 none rmX10_init [.ref a0] (K, len, I, J, R) (pV5 (fun M' => (Made K len I R a0 10 (va_up (fun _ => 0) 2 (-1)) M' ∧ M'.2.2.2.2 a0 3 = none) ∧ Own K R a0 M')) := by
  refine Ct_intro (by decide +kernel) (Nat.le_of_ble_eq_true rfl) (fun X hC hL hKK hNm hr hlk hQ => ?_)
  subst hL
  have hC : Cx g X cX10_init "HillTapModel" 1 rmX10_init := hC
  show P g X 1 0 [(0, .ref a0)] [] 0 0 (K, len, I, J, R)
  have c0 : Con K len I R a0 10 (fun _ => 0) [] K len I R := Con.start hs ka0 hz hn
  have mo0 : ∀ y, K y ≠ 0 → K y = K y := fun _ _ => rfl
  have uk0 : ∀ y, K y ≠ 0 → K y ≠ 6 → UN R y → UN R y := fun _ _ _ h => h
  refine r_aload_n hC dX10_init_0 0 rfl ?_
  refine r_objInit hC mT_4_234 mT_1_28 mT_1_29 dX10_init_1 (by decide) (by decide) ?_
  refine r_aload_n hC dX10_init_4 0 rfl ?_
  refine r_iconst hC (v := (-1)) dX10_init_5 (by decide) (by decide) (fun z1 ez1 tz1 => ?_)
  refine r_puti hC 2 (ci := 10) rfl u10_in tyX10_ok nmX10 (by decide) mT_4_237 rfl rfl rfl dX10_init_6 c0.2.1 rfl rfl (fun I2 eI2 => ?_)
  rw [ez1] at eI2
  have c2 := c0.num (by decide) eI2
  refine r_aload_n hC dX10_init_9 0 rfl ?_
  refine r_sipush hC (v := (900)) dX10_init_10 (by decide) (by decide) (fun z3 ez3 tz3 => ?_)
  refine r_newarray hC (atype := .byte) (ty := .byte) (kd := 49) (t := 0) (N := 900) rfl mT_1_46 rfl rfl rfl (by decide) (fun _ h => h) (900, arE 0 (K, len, fun _ _ => 0, fun _ _ => 0, fun _ _ => none) 0) rfl (ha_0 900 _ _) (nlt_0 (by omega)) (cl_of (by omega)) (by decide) (by decide) (by decide) dX10_init_13 (fun q4 hq4 => ?_)
  refine r_putrF hC 5 (ci := 10) hNm rfl u10_in tyX10_ok nmX10 (by decide) mT_5_0 rfl rfl rfl rfl dX10_init_15 (c2.kq hq4) rfl rfl (fun R4 eR4 => ?_)
  have u4 := (UU.new (kd := 49) hu hq4 (by first | decide | omega)).put (Or.inl (UN.fresh hu hq4)) (by rw [va_up_self]; first | decide | omega) eR4
  have un4 := (UN.new hun).put (fun z => c2.ne0 (by rw [← z]; exact hq4)) eR4
  have mo4 : ∀ y, K y ≠ 0 → va_up K q4 (49) y = K y := fun y hy => kupy hq4 (mo0 y hy) hy
  have uk4 : ∀ y, K y ≠ 0 → K y ≠ 6 → UN R y → UN R4 y := fun y y1 y2 y3 => (UN.new (uk0 y y1 y2 y3)).put (fun z => y1 (by rw [← mo0 y y1, ← z]; exact hq4)) eR4
  have ar4 : K q4 = 0 := Classical.byContradiction fun z => z (by rw [← mo0 q4 z]; exact hq4)
  have c4 := c2.row (n := 900) (kd := 49) (k := 5) (by decide) hq4 rfl (by simp) eR4
  generalize va_up K q4 (49) = K4 at c4 u4 mo4 ⊢
  generalize va_up len q4 900 = len4 at c4 ⊢
  generalize z2 I2 q4 0 = I4 at c4 ⊢
  generalize z2 J q4 0 = J4
  refine r_aload_n hC dX10_init_18 0 rfl ?_
  refine r_bipush hC (v := (60)) dX10_init_19 (by decide) (by decide) (fun z5 ez5 tz5 => ?_)
  refine r_newarray hC (atype := .int) (ty := .int) (kd := 85) (t := 1) (N := 60) rfl mT_1_152 rfl rfl rfl (by decide) (fun _ h => h) (60, arE 1 (K4, len4, fun _ _ => 0, fun _ _ => 0, fun _ _ => none) 0) rfl (ha_1 60 _ _) (nlt_0 (by omega)) (cl_of (by omega)) (by decide) (by decide) (by decide) dX10_init_21 (fun q6 hq6 => ?_)
  refine r_putrF hC 15 (ci := 10) hNm rfl u10_in tyX10_ok nmX10 (by decide) mT_5_10 rfl rfl rfl rfl dX10_init_23 (c4.kq hq6) rfl rfl (fun R6 eR6 => ?_)
  have u6 := (UU.new (kd := 85) u4 hq6 (by first | decide | omega)).put (Or.inl (UN.fresh u4 hq6)) (by rw [va_up_self]; first | decide | omega) eR6
  have un6 := (UN.new un4).put (fun z => c4.ne0 (by rw [← z]; exact hq6)) eR6
  have mo6 : ∀ y, K y ≠ 0 → va_up K4 q6 (85) y = K y := fun y hy => kupy hq6 (mo4 y hy) hy
  have uk6 : ∀ y, K y ≠ 0 → K y ≠ 6 → UN R y → UN R6 y := fun y y1 y2 y3 => (UN.new (uk4 y y1 y2 y3)).put (fun z => y1 (by rw [← mo4 y y1, ← z]; exact hq6)) eR6
  have ar6 : K q6 = 0 := Classical.byContradiction fun z => z (by rw [← mo4 q6 z]; exact hq6)
  have c6 := c4.row (n := 60) (kd := 85) (k := 15) (by decide) hq6 rfl (by simp) eR6
  generalize va_up K4 q6 (85) = K6 at c6 u6 mo6 ⊢
  generalize va_up len4 q6 60 = len6 at c6 ⊢
  generalize z2 I4 q6 0 = I6 at c6 ⊢
  generalize z2 J4 q6 0 = J6
  refine r_aload_n hC dX10_init_26 0 rfl ?_
  refine r_sipush hC (v := (300)) dX10_init_27 (by decide) (by decide) (fun z7 ez7 tz7 => ?_)
  refine r_newarray hC (atype := .int) (ty := .int) (kd := 86) (t := 1) (N := 300) rfl mT_1_152 rfl rfl rfl (by decide) (fun _ h => h) (300, arE 1 (K6, len6, fun _ _ => 0, fun _ _ => 0, fun _ _ => none) 0) rfl (ha_1 300 _ _) (nlt_0 (by omega)) (cl_of (by omega)) (by decide) (by decide) (by decide) dX10_init_30 (fun q8 hq8 => ?_)
  refine r_putrF hC 16 (ci := 10) hNm rfl u10_in tyX10_ok nmX10 (by decide) mT_5_11 rfl rfl rfl rfl dX10_init_32 (c6.kq hq8) rfl rfl (fun R8 eR8 => ?_)
  have u8 := (UU.new (kd := 86) u6 hq8 (by first | decide | omega)).put (Or.inl (UN.fresh u6 hq8)) (by rw [va_up_self]; first | decide | omega) eR8
  have un8 := (UN.new un6).put (fun z => c6.ne0 (by rw [← z]; exact hq8)) eR8
  have mo8 : ∀ y, K y ≠ 0 → va_up K6 q8 (86) y = K y := fun y hy => kupy hq8 (mo6 y hy) hy
  have uk8 : ∀ y, K y ≠ 0 → K y ≠ 6 → UN R y → UN R8 y := fun y y1 y2 y3 => (UN.new (uk6 y y1 y2 y3)).put (fun z => y1 (by rw [← mo6 y y1, ← z]; exact hq8)) eR8
  have ar8 : K q8 = 0 := Classical.byContradiction fun z => z (by rw [← mo6 q8 z]; exact hq8)
  have c8 := c6.row (n := 300) (kd := 86) (k := 16) (by decide) hq8 rfl (by simp) eR8
  generalize va_up K6 q8 (86) = K8 at c8 u8 mo8 ⊢
  generalize va_up len6 q8 300 = len8 at c8 ⊢
  generalize z2 I6 q8 0 = I8 at c8 ⊢
  generalize z2 J6 q8 0 = J8
  refine r_aload_n hC dX10_init_35 0 rfl ?_
  refine r_sipush hC (v := (300)) dX10_init_36 (by decide) (by decide) (fun z9 ez9 tz9 => ?_)
  refine r_newarray hC (atype := .int) (ty := .int) (kd := 87) (t := 1) (N := 300) rfl mT_1_152 rfl rfl rfl (by decide) (fun _ h => h) (300, arE 1 (K8, len8, fun _ _ => 0, fun _ _ => 0, fun _ _ => none) 0) rfl (ha_1 300 _ _) (nlt_0 (by omega)) (cl_of (by omega)) (by decide) (by decide) (by decide) dX10_init_39 (fun q10 hq10 => ?_)
  refine r_putrF hC 17 (ci := 10) hNm rfl u10_in tyX10_ok nmX10 (by decide) mT_5_12 rfl rfl rfl rfl dX10_init_41 (c8.kq hq10) rfl rfl (fun R10 eR10 => ?_)
  have u10 := (UU.new (kd := 87) u8 hq10 (by first | decide | omega)).put (Or.inl (UN.fresh u8 hq10)) (by rw [va_up_self]; first | decide | omega) eR10
  have un10 := (UN.new un8).put (fun z => c8.ne0 (by rw [← z]; exact hq10)) eR10
  have mo10 : ∀ y, K y ≠ 0 → va_up K8 q10 (87) y = K y := fun y hy => kupy hq10 (mo8 y hy) hy
  have uk10 : ∀ y, K y ≠ 0 → K y ≠ 6 → UN R y → UN R10 y := fun y y1 y2 y3 => (UN.new (uk8 y y1 y2 y3)).put (fun z => y1 (by rw [← mo8 y y1, ← z]; exact hq10)) eR10
  have ar10 : K q10 = 0 := Classical.byContradiction fun z => z (by rw [← mo8 q10 z]; exact hq10)
  have c10 := c8.row (n := 300) (kd := 87) (k := 17) (by decide) hq10 rfl (by simp) eR10
  generalize va_up K8 q10 (87) = K10 at c10 u10 mo10 ⊢
  generalize va_up len8 q10 300 = len10 at c10 ⊢
  generalize z2 I8 q10 0 = I10 at c10 ⊢
  generalize z2 J8 q10 0 = J10
  refine r_aload_n hC dX10_init_44 0 rfl ?_
  refine r_sipush hC (v := (300)) dX10_init_45 (by decide) (by decide) (fun z11 ez11 tz11 => ?_)
  refine r_newarray hC (atype := .int) (ty := .int) (kd := 88) (t := 1) (N := 300) rfl mT_1_152 rfl rfl rfl (by decide) (fun _ h => h) (300, arE 1 (K10, len10, fun _ _ => 0, fun _ _ => 0, fun _ _ => none) 0) rfl (ha_1 300 _ _) (nlt_0 (by omega)) (cl_of (by omega)) (by decide) (by decide) (by decide) dX10_init_48 (fun q12 hq12 => ?_)
  refine r_putrF hC 18 (ci := 10) hNm rfl u10_in tyX10_ok nmX10 (by decide) mT_5_13 rfl rfl rfl rfl dX10_init_50 (c10.kq hq12) rfl rfl (fun R12 eR12 => ?_)
  have u12 := (UU.new (kd := 88) u10 hq12 (by first | decide | omega)).put (Or.inl (UN.fresh u10 hq12)) (by rw [va_up_self]; first | decide | omega) eR12
  have un12 := (UN.new un10).put (fun z => c10.ne0 (by rw [← z]; exact hq12)) eR12
  have mo12 : ∀ y, K y ≠ 0 → va_up K10 q12 (88) y = K y := fun y hy => kupy hq12 (mo10 y hy) hy
  have uk12 : ∀ y, K y ≠ 0 → K y ≠ 6 → UN R y → UN R12 y := fun y y1 y2 y3 => (UN.new (uk10 y y1 y2 y3)).put (fun z => y1 (by rw [← mo10 y y1, ← z]; exact hq12)) eR12
  have ar12 : K q12 = 0 := Classical.byContradiction fun z => z (by rw [← mo10 q12 z]; exact hq12)
  have c12 := c10.row (n := 300) (kd := 88) (k := 18) (by decide) hq12 rfl (by simp) eR12
  generalize va_up K10 q12 (88) = K12 at c12 u12 mo12 ⊢
  generalize va_up len10 q12 300 = len12 at c12 ⊢
  generalize z2 I10 q12 0 = I12 at c12 ⊢
  generalize z2 J10 q12 0 = J12
  refine r_aload_n hC dX10_init_53 0 rfl ?_
  refine r_bipush hC (v := (24)) dX10_init_54 (by decide) (by decide) (fun z13 ez13 tz13 => ?_)
  refine r_newarray hC (atype := .int) (ty := .int) (kd := 89) (t := 1) (N := 24) rfl mT_1_152 rfl rfl rfl (by decide) (fun _ h => h) (24, arE 1 (K12, len12, fun _ _ => 0, fun _ _ => 0, fun _ _ => none) 0) rfl (ha_1 24 _ _) (nlt_0 (by omega)) (cl_of (by omega)) (by decide) (by decide) (by decide) dX10_init_56 (fun q14 hq14 => ?_)
  refine r_putrF hC 21 (ci := 10) hNm rfl u10_in tyX10_ok nmX10 (by decide) mT_5_16 rfl rfl rfl rfl dX10_init_58 (c12.kq hq14) rfl rfl (fun R14 eR14 => ?_)
  have u14 := (UU.new (kd := 89) u12 hq14 (by first | decide | omega)).put (Or.inl (UN.fresh u12 hq14)) (by rw [va_up_self]; first | decide | omega) eR14
  have un14 := (UN.new un12).put (fun z => c12.ne0 (by rw [← z]; exact hq14)) eR14
  have mo14 : ∀ y, K y ≠ 0 → va_up K12 q14 (89) y = K y := fun y hy => kupy hq14 (mo12 y hy) hy
  have uk14 : ∀ y, K y ≠ 0 → K y ≠ 6 → UN R y → UN R14 y := fun y y1 y2 y3 => (UN.new (uk12 y y1 y2 y3)).put (fun z => y1 (by rw [← mo12 y y1, ← z]; exact hq14)) eR14
  have ar14 : K q14 = 0 := Classical.byContradiction fun z => z (by rw [← mo12 q14 z]; exact hq14)
  have c14 := c12.row (n := 24) (kd := 89) (k := 21) (by decide) hq14 rfl (by simp) eR14
  generalize va_up K12 q14 (89) = K14 at c14 u14 mo14 ⊢
  generalize va_up len12 q14 24 = len14 at c14 ⊢
  generalize z2 I12 q14 0 = I14 at c14 ⊢
  generalize z2 J12 q14 0 = J14
  refine r_aload_n hC dX10_init_61 0 rfl ?_
  refine r_bipush hC (v := (24)) dX10_init_62 (by decide) (by decide) (fun z15 ez15 tz15 => ?_)
  refine r_newarray hC (atype := .int) (ty := .int) (kd := 90) (t := 1) (N := 24) rfl mT_1_152 rfl rfl rfl (by decide) (fun _ h => h) (24, arE 1 (K14, len14, fun _ _ => 0, fun _ _ => 0, fun _ _ => none) 0) rfl (ha_1 24 _ _) (nlt_0 (by omega)) (cl_of (by omega)) (by decide) (by decide) (by decide) dX10_init_64 (fun q16 hq16 => ?_)
  refine r_putrF hC 22 (ci := 10) hNm rfl u10_in tyX10_ok nmX10 (by decide) mT_5_17 rfl rfl rfl rfl dX10_init_66 (c14.kq hq16) rfl rfl (fun R16 eR16 => ?_)
  have u16 := (UU.new (kd := 90) u14 hq16 (by first | decide | omega)).put (Or.inl (UN.fresh u14 hq16)) (by rw [va_up_self]; first | decide | omega) eR16
  have un16 := (UN.new un14).put (fun z => c14.ne0 (by rw [← z]; exact hq16)) eR16
  have mo16 : ∀ y, K y ≠ 0 → va_up K14 q16 (90) y = K y := fun y hy => kupy hq16 (mo14 y hy) hy
  have uk16 : ∀ y, K y ≠ 0 → K y ≠ 6 → UN R y → UN R16 y := fun y y1 y2 y3 => (UN.new (uk14 y y1 y2 y3)).put (fun z => y1 (by rw [← mo14 y y1, ← z]; exact hq16)) eR16
  have ar16 : K q16 = 0 := Classical.byContradiction fun z => z (by rw [← mo14 q16 z]; exact hq16)
  have c16 := c14.row (n := 24) (kd := 90) (k := 22) (by decide) hq16 rfl (by simp) eR16
  generalize va_up K14 q16 (90) = K16 at c16 u16 mo16 ⊢
  generalize va_up len14 q16 24 = len16 at c16 ⊢
  generalize z2 I14 q16 0 = I16 at c16 ⊢
  generalize z2 J14 q16 0 = J16
  refine r_aload_n hC dX10_init_69 0 rfl ?_
  refine r_bipush hC (v := (24)) dX10_init_70 (by decide) (by decide) (fun z17 ez17 tz17 => ?_)
  refine r_newarray hC (atype := .int) (ty := .int) (kd := 91) (t := 1) (N := 24) rfl mT_1_152 rfl rfl rfl (by decide) (fun _ h => h) (24, arE 1 (K16, len16, fun _ _ => 0, fun _ _ => 0, fun _ _ => none) 0) rfl (ha_1 24 _ _) (nlt_0 (by omega)) (cl_of (by omega)) (by decide) (by decide) (by decide) dX10_init_72 (fun q18 hq18 => ?_)
  refine r_putrF hC 23 (ci := 10) hNm rfl u10_in tyX10_ok nmX10 (by decide) mT_5_18 rfl rfl rfl rfl dX10_init_74 (c16.kq hq18) rfl rfl (fun R18 eR18 => ?_)
  have u18 := (UU.new (kd := 91) u16 hq18 (by first | decide | omega)).put (Or.inl (UN.fresh u16 hq18)) (by rw [va_up_self]; first | decide | omega) eR18
  have un18 := (UN.new un16).put (fun z => c16.ne0 (by rw [← z]; exact hq18)) eR18
  have mo18 : ∀ y, K y ≠ 0 → va_up K16 q18 (91) y = K y := fun y hy => kupy hq18 (mo16 y hy) hy
  have uk18 : ∀ y, K y ≠ 0 → K y ≠ 6 → UN R y → UN R18 y := fun y y1 y2 y3 => (UN.new (uk16 y y1 y2 y3)).put (fun z => y1 (by rw [← mo16 y y1, ← z]; exact hq18)) eR18
  have ar18 : K q18 = 0 := Classical.byContradiction fun z => z (by rw [← mo16 q18 z]; exact hq18)
  have c18 := c16.row (n := 24) (kd := 91) (k := 23) (by decide) hq18 rfl (by simp) eR18
  generalize va_up K16 q18 (91) = K18 at c18 u18 mo18 ⊢
  generalize va_up len16 q18 24 = len18 at c18 ⊢
  generalize z2 I16 q18 0 = I18 at c18 ⊢
  generalize z2 J16 q18 0 = J18
  refine r_aload_n hC dX10_init_77 0 rfl ?_
  refine r_bipush hC (v := (24)) dX10_init_78 (by decide) (by decide) (fun z19 ez19 tz19 => ?_)
  refine r_newarray hC (atype := .int) (ty := .int) (kd := 92) (t := 1) (N := 24) rfl mT_1_152 rfl rfl rfl (by decide) (fun _ h => h) (24, arE 1 (K18, len18, fun _ _ => 0, fun _ _ => 0, fun _ _ => none) 0) rfl (ha_1 24 _ _) (nlt_0 (by omega)) (cl_of (by omega)) (by decide) (by decide) (by decide) dX10_init_80 (fun q20 hq20 => ?_)
  refine r_putrF hC 24 (ci := 10) hNm rfl u10_in tyX10_ok nmX10 (by decide) mT_5_19 rfl rfl rfl rfl dX10_init_82 (c18.kq hq20) rfl rfl (fun R20 eR20 => ?_)
  have u20 := (UU.new (kd := 92) u18 hq20 (by first | decide | omega)).put (Or.inl (UN.fresh u18 hq20)) (by rw [va_up_self]; first | decide | omega) eR20
  have un20 := (UN.new un18).put (fun z => c18.ne0 (by rw [← z]; exact hq20)) eR20
  have mo20 : ∀ y, K y ≠ 0 → va_up K18 q20 (92) y = K y := fun y hy => kupy hq20 (mo18 y hy) hy
  have uk20 : ∀ y, K y ≠ 0 → K y ≠ 6 → UN R y → UN R20 y := fun y y1 y2 y3 => (UN.new (uk18 y y1 y2 y3)).put (fun z => y1 (by rw [← mo18 y y1, ← z]; exact hq20)) eR20
  have ar20 : K q20 = 0 := Classical.byContradiction fun z => z (by rw [← mo18 q20 z]; exact hq20)
  have c20 := c18.row (n := 24) (kd := 92) (k := 24) (by decide) hq20 rfl (by simp) eR20
  generalize va_up K18 q20 (92) = K20 at c20 u20 mo20 ⊢
  generalize va_up len18 q20 24 = len20 at c20 ⊢
  generalize z2 I18 q20 0 = I20 at c20 ⊢
  generalize z2 J18 q20 0 = J20
  refine r_aload_n hC dX10_init_85 0 rfl ?_
  refine r_bipush hC (v := (6)) dX10_init_86 (by decide) (by decide) (fun z21 ez21 tz21 => ?_)
  refine r_newarray hC (atype := .boolean) (ty := .boolean) (kd := 93) (t := 3) (N := 6) rfl mT_2_77 rfl rfl rfl (by decide) (fun _ h => h) (6, arE 3 (K20, len20, fun _ _ => 0, fun _ _ => 0, fun _ _ => none) 0) rfl (ha_3 6 _ _) (nlt_0 (by omega)) (cl_of (by omega)) (by decide) (by decide) (by decide) dX10_init_88 (fun q22 hq22 => ?_)
  refine r_putrF hC 25 (ci := 10) hNm rfl u10_in tyX10_ok nmX10 (by decide) mT_5_20 rfl rfl rfl rfl dX10_init_90 (c20.kq hq22) rfl rfl (fun R22 eR22 => ?_)
  have u22 := (UU.new (kd := 93) u20 hq22 (by first | decide | omega)).put (Or.inl (UN.fresh u20 hq22)) (by rw [va_up_self]; first | decide | omega) eR22
  have un22 := (UN.new un20).put (fun z => c20.ne0 (by rw [← z]; exact hq22)) eR22
  have mo22 : ∀ y, K y ≠ 0 → va_up K20 q22 (93) y = K y := fun y hy => kupy hq22 (mo20 y hy) hy
  have uk22 : ∀ y, K y ≠ 0 → K y ≠ 6 → UN R y → UN R22 y := fun y y1 y2 y3 => (UN.new (uk20 y y1 y2 y3)).put (fun z => y1 (by rw [← mo20 y y1, ← z]; exact hq22)) eR22
  have ar22 : K q22 = 0 := Classical.byContradiction fun z => z (by rw [← mo20 q22 z]; exact hq22)
  have c22 := c20.row (n := 6) (kd := 93) (k := 25) (by decide) hq22 rfl (by simp) eR22
  generalize va_up K20 q22 (93) = K22 at c22 u22 mo22 ⊢
  generalize va_up len20 q22 6 = len22 at c22 ⊢
  generalize z2 I20 q22 0 = I22 at c22 ⊢
  generalize z2 J20 q22 0 = J22
  refine r_seal (q := a0) (ci := 10) c22.2.1 rfl rfl ?_
  have md23 := c22.made (J := J22) (by decide) (by simp [refT]) (rz10) (fun z => absurd z (by decide)) (fun _ => ⟨by decide, by simp, by simp⟩) (fun z => absurd z (by decide))
  exact r_vret hC hQ hlk hr (by decide) (by decide) dX10_init_93 ⟨rfl, ⟨md23, c22.2.2.2.2.1 3 (by simp)⟩, UU.seal (v := 1 + 10) u22 (by rw [c22.2.1]; decide) (by decide), un22, uk22⟩
abbrev rmX8_init : Room := { frames := 3, cells := 97, slots := 8723, locals := 62 }
set_option maxHeartbeats 4000000 in
set_option maxRecDepth 100000 in
theorem c_X8_init (g : GG) (l : Launch) (K len : Nat → Nat) (I : Nat → Nat → Int32) (J : Nat → Nat → Int64) (R : Nat → Nat → Option Nat) (hs : Sf K len I R) (a0 : Nat) (ka0 : K a0 = 21 + 8) (hz : I a0 = fun _ => 0) (hn : ∀ k, R a0 k = none) (hu : UU K R) (hun : UN R a0) : Ct g l yX8_init cX8_init 2 none rmX8_init [.ref a0] (K, len, I, J, R) (pV5 (fun M' => (Made K len I R a0 8 (va_up (fun _ => 0) 12 0) M' ∧ ∃ T te tk h lk s ls rd, Born a0 T te tk h lk s ls rd M'.1 M'.2.2.1 M'.2.2.2.2) ∧ Own K R a0 M')) := by
  refine Ct_intro (by decide +kernel) (Nat.le_of_ble_eq_true rfl) (fun X hC hL hKK hNm hr hlk hQ => ?_)
  subst hL
  have hC : Cx g X cX8_init "HillTap" 2 rmX8_init := hC
  show P g X 2 0 [(0, .ref a0)] [] 0 0 (K, len, I, J, R)
  have c0 : Con K len I R a0 8 (fun _ => 0) [] K len I R := Con.start hs ka0 hz hn
  have mo0 : ∀ y, K y ≠ 0 → K y = K y := fun _ _ => rfl
  have uk0 : ∀ y, K y ≠ 0 → K y ≠ 6 → UN R y → UN R y := fun _ _ _ h => h
  refine r_aload_n hC dX8_init_0 0 rfl ?_
  refine r_objInit hC mT_1_27 mT_1_28 mT_1_29 dX8_init_1 (by decide) (by decide) ?_
  refine r_aload_n hC dX8_init_4 0 rfl ?_
  have cB1 := c0
  have cx1 := c0.rebase
  refine r_new hC (ci := 5) (ty := tyX5) rfl u5_in tyX5_ok df5 mT_1_30 mT_1_31 mT_1_2 rfl (by decide) (by decide) dX8_init_5 (fun q2 hq2 => ?_)
  refine r_dup hC dX8_init_8 rfl ?_
  refine r_callIN hC (As := []) (rest := [.ref q2, .ref a0]) (c_X5_init g (xL X) _ _ _ _ _ (cx1.1.growO hq2 rfl) q2 (va_up_self _ _ _) (by funext j; exact z2_self _ _ _ _) (fun j => z2_self _ _ _ _) (UU.new (kd := 21 + 5) hu hq2 (by decide)) (UN.fresh hu hq2)) mT_1_34 mT_1_2 nM_0 mT_1_33 rfl okX5_init ⟨by decide, by decide⟩ rfl rfl (Nat.le_of_ble_eq_true rfl) ⟨by decide, by decide⟩ dX8_init_9 (aV5 (F := fun st M => P g X 2 12 [(0, .ref a0)] st _ _ M) fun M3 h3 => ?_)
  obtain ⟨K3, len3, I3, J3, R3⟩ := M3
  obtain ⟨h3, u3, uq3, uy3⟩ := h3
  dsimp only at u3 uq3 uy3
  have mo3 : ∀ y, K y ≠ 0 → K3 y = K y := fun y hy => (made_oldK hq2 h3 y (by rw [mo0 y hy]; exact hy)).trans (mo0 y hy)
  have un3 : UN R3 a0 := uy3 a0 (by rw [cx1.kq hq2]; omega) (by rw [cx1.kq hq2]; omega) (hun.new)
  have uk3 : ∀ y, K y ≠ 0 → K y ≠ 6 → UN R y → UN R3 y := fun y y1 y2 y3 => uy3 y (by rw [kupy hq2 (mo0 y y1) y1]; exact y1) (by rw [kupy hq2 (mo0 y y1) y1]; exact y2) (UN.new (uk0 y y1 y2 y3))
  obtain ⟨c3, hk3, hqa3, hz3⟩ := cx1.after hq2 h3
  show P g X 2 12 [(0, .ref a0)] [.ref q2, .ref a0] _ _ (K3, len3, I3, J3, R3)
  refine r_putrF hC 0 (ci := 8) hNm rfl u8_in tyX8_ok nmX8 (by decide) mT_2_78 rfl rfl rfl rfl dX8_init_12 (c3.2.1) rfl rfl (fun R4 eR4 => ?_)
  have u4 := u3.put (Or.inl uq3) (by rw [hk3]; exact Nat.succ_ne_zero _) eR4
  have un4 := un3.put hqa3 eR4
  have uk4 : ∀ y, K y ≠ 0 → K y ≠ 6 → UN R y → UN R4 y := fun y y1 y2 y3 => (uk3 y y1 y2 y3).put (fun z => y1 (by rw [← mo0 y y1, ← z]; exact hq2)) eR4
  have c4 := c3.old (n := len3 q2) (by decide) hk3 rfl (by decide) hqa3 (by simp) eR4
  have z_q2 : I3 q2 = fun _ => 0 := hz3
  have cB5 := c4
  have cx5 := c4.rebase
  refine r_aload_n hC dX8_init_15 0 rfl ?_
  obtain ⟨oK6q2, -, oI6q2, oR6q2⟩ := cx5.2.2.2.2.2 q2 (by rw [hk3]; exact Nat.succ_ne_zero _) hqa3
  have kk6q2 := oK6q2.trans hk3
  have ii6q2 := oI6q2.trans z_q2
  have cB6 := cx5
  have cx6 := cx5.rebase
  refine r_new hC (ci := 6) (ty := tyX6) rfl u6_in tyX6_ok df6 mT_1_47 mT_1_48 mT_1_3 rfl (by decide) (by decide) dX8_init_16 (fun q7 hq7 => ?_)
  refine r_dup hC dX8_init_19 rfl ?_
  refine r_aload_n hC dX8_init_20 0 rfl ?_
  have hne7 : a0 ≠ q7 := fun z => cx6.ne0 (by rw [z]; exact hq7)
  have htp7 := cx6.2.2.2.1 (0, q2, 6, len3 q2) (by simp)
  refine r_getr hC 0 (ci := 8) rfl u8_in (by decide) mT_2_78 dX8_init_21 (cx6.kq hq7) rfl rfl (by rw [z2_ne _ _ _ hne7]; exact htp7.1) ?_
  refine r_callI hC (As := [.ref q2]) (rest := [.ref q7, .ref a0]) (c_X6_init g (xL X) _ _ _ _ _ (cx6.1.growO hq7 rfl) q7 (va_up_self _ _ _) (by funext j; exact z2_self _ _ _ _) (fun j => z2_self _ _ _ _) (UU.new (kd := 21 + 6) u4 hq7 (by decide)) (UN.fresh u4 hq7) q2 (kup hq7 htp7.2.1 (by decide))) mT_1_51 mT_1_3 mT_1_49 mT_1_50 rfl okX6_init ⟨by decide, by decide⟩ rfl rfl (Nat.le_of_ble_eq_true rfl) ⟨by decide, by decide⟩ dX8_init_24 (aV5 (F := fun st M => P g X 2 27 [(0, .ref a0)] st _ _ M) fun M8 h8 => ?_)
  obtain ⟨K8, len8, I8, J8, R8⟩ := M8
  obtain ⟨h8, u8, uq8, uy8⟩ := h8
  dsimp only at u8 uq8 uy8
  obtain ⟨h8, ex8⟩ := h8
  dsimp only at ex8
  have mo8 : ∀ y, K y ≠ 0 → K8 y = K y := fun y hy => (made_oldK hq7 h8 y (by rw [mo3 y hy]; exact hy)).trans (mo3 y hy)
  have un8 : UN R8 a0 := uy8 a0 (by rw [cx6.kq hq7]; omega) (by rw [cx6.kq hq7]; omega) (un4.new)
  have uk8 : ∀ y, K y ≠ 0 → K y ≠ 6 → UN R y → UN R8 y := fun y y1 y2 y3 => uy8 y (by rw [kupy hq7 (mo3 y y1) y1]; exact y1) (by rw [kupy hq7 (mo3 y y1) y1]; exact y2) (UN.new (uk4 y y1 y2 y3))
  obtain ⟨c8, hk8, hqa8, hz8⟩ := cx6.after hq7 h8
  show P g X 2 27 [(0, .ref a0)] [.ref q7, .ref a0] _ _ (K8, len8, I8, J8, R8)
  refine r_putrF hC 1 (ci := 8) hNm rfl u8_in tyX8_ok nmX8 (by decide) mT_2_79 rfl rfl rfl rfl dX8_init_27 (c8.2.1) rfl rfl (fun R9 eR9 => ?_)
  have u9 := u8.put (Or.inl uq8) (by rw [hk8]; exact Nat.succ_ne_zero _) eR9
  have un9 := un8.put hqa8 eR9
  have uk9 : ∀ y, K y ≠ 0 → K y ≠ 6 → UN R y → UN R9 y := fun y y1 y2 y3 => (uk8 y y1 y2 y3).put (fun z => y1 (by rw [← mo3 y y1, ← z]; exact hq7)) eR9
  have c9 := c8.old (n := len8 q7) (by decide) hk8 rfl (by decide) hqa8 (by simp) eR9
  have z_q7 : I8 q7 = fun _ => 0 := hz8
  obtain ⟨tk, rte8, ktk8, rtk8⟩ := ex8
  have ne_tk : tk ≠ a0 := fun z => by rw [z, c9.2.1] at ktk8; exact absurd ktk8 (by decide)
  have rq_q7 : R9 q7 0 = some tk := by rw [eR9, up2_ne _ _ (Or.inl hqa8)]; exact rte8
  have rq_tk : R9 tk 0 = some q2 := by rw [eR9, up2_ne _ _ (Or.inl ne_tk)]; exact rtk8
  obtain ⟨oK10q2, -, oI10q2, oR10q2⟩ := c9.2.2.2.2.2 q2 (by rw [kk6q2]; exact Nat.succ_ne_zero _) hqa3
  have kk10q2 := oK10q2.trans kk6q2
  have ii10q2 := oI10q2.trans ii6q2
  have cB10 := c9
  have cx10 := c9.rebase
  refine r_aload_n hC dX8_init_30 0 rfl ?_
  obtain ⟨oK11q2, -, oI11q2, oR11q2⟩ := cx10.2.2.2.2.2 q2 (by rw [kk10q2]; exact Nat.succ_ne_zero _) hqa3
  have kk11q2 := oK11q2.trans kk10q2
  have ii11q2 := oI11q2.trans ii10q2
  obtain ⟨oK11q7, -, oI11q7, oR11q7⟩ := cx10.2.2.2.2.2 q7 (by rw [hk8]; exact Nat.succ_ne_zero _) hqa8
  have kk11q7 := oK11q7.trans hk8
  have ii11q7 := oI11q7.trans z_q7
  have rr11q7 := (congrFun oR11q7 0).trans rq_q7
  obtain ⟨oK11tk, -, oI11tk, oR11tk⟩ := cx10.2.2.2.2.2 tk (by rw [ktk8]; exact Nat.succ_ne_zero _) ne_tk
  have kk11tk := oK11tk.trans ktk8
  have rr11tk := (congrFun oR11tk 0).trans rq_tk
  have cB11 := cx10
  have cx11 := cx10.rebase
  refine r_new hC (ci := 1) (ty := tyX1) rfl u1_in tyX1_ok df1 mT_1_105 mT_1_106 mT_1_5 rfl (by decide) (by decide) dX8_init_31 (fun q12 hq12 => ?_)
  refine r_dup hC dX8_init_34 rfl ?_
  refine r_callI hC (As := []) (rest := [.ref q12, .ref a0]) (c_X1_init g (xL X) _ _ _ _ _ (cx11.1.growO hq12 rfl) q12 (va_up_self _ _ _) (by funext j; exact z2_self _ _ _ _) (fun j => z2_self _ _ _ _) (UU.new (kd := 21 + 1) u9 hq12 (by decide)) (UN.fresh u9 hq12)) mT_1_109 mT_1_5 mT_1_107 mT_1_108 rfl okX1_init ⟨by decide, by decide⟩ rfl rfl (Nat.le_of_ble_eq_true rfl) ⟨by decide, by decide⟩ dX8_init_35 (aV5 (F := fun st M => P g X 2 38 [(0, .ref a0)] st _ _ M) fun M13 h13 => ?_)
  obtain ⟨K13, len13, I13, J13, R13⟩ := M13
  obtain ⟨h13, u13, uq13, uy13⟩ := h13
  dsimp only at u13 uq13 uy13
  obtain ⟨h13, ex13⟩ := h13
  dsimp only at ex13
  have mo13 : ∀ y, K y ≠ 0 → K13 y = K y := fun y hy => (made_oldK hq12 h13 y (by rw [mo8 y hy]; exact hy)).trans (mo8 y hy)
  have un13 : UN R13 a0 := uy13 a0 (by rw [cx11.kq hq12]; omega) (by rw [cx11.kq hq12]; omega) (un9.new)
  have uk13 : ∀ y, K y ≠ 0 → K y ≠ 6 → UN R y → UN R13 y := fun y y1 y2 y3 => uy13 y (by rw [kupy hq12 (mo8 y y1) y1]; exact y1) (by rw [kupy hq12 (mo8 y y1) y1]; exact y2) (UN.new (uk9 y y1 y2 y3))
  obtain ⟨c13, hk13, hqa13, hz13⟩ := cx11.after hq12 h13
  show P g X 2 38 [(0, .ref a0)] [.ref q12, .ref a0] _ _ (K13, len13, I13, J13, R13)
  refine r_putr hC 2 (ci := 8) rfl u8_in tyX8_ok nmX8 (by decide) mT_2_80 rfl rfl rfl dX8_init_38 (c13.2.1) rfl rfl (fun R14 eR14 => ?_)
  have u14 := u13.put (Or.inl uq13) (by rw [hk13]; exact Nat.succ_ne_zero _) eR14
  have un14 := un13.put hqa13 eR14
  have uk14 : ∀ y, K y ≠ 0 → K y ≠ 6 → UN R y → UN R14 y := fun y y1 y2 y3 => (uk13 y y1 y2 y3).put (fun z => y1 (by rw [← mo8 y y1, ← z]; exact hq12)) eR14
  have c14 := c13.old (n := len13 q12) (by decide) hk13 rfl (by decide) hqa13 (by simp) eR14
  have z_q12 : I13 q12 = fun _ => 0 := hz13
  obtain ⟨lk13, rh13, klk13, fl13x, il13⟩ := ex13
  have ne_lk13 : lk13 ≠ a0 := fun z => by rw [z, c14.2.1] at klk13; exact absurd klk13 (by decide)
  have rq_q12 : R14 q12 0 = some lk13 := by rw [eR14, up2_ne _ _ (Or.inl hqa13)]; exact rh13
  obtain ⟨oK15q2, -, oI15q2, oR15q2⟩ := c14.2.2.2.2.2 q2 (by rw [kk11q2]; exact Nat.succ_ne_zero _) hqa3
  have kk15q2 := oK15q2.trans kk11q2
  have ii15q2 := oI15q2.trans ii11q2
  obtain ⟨oK15q7, -, oI15q7, oR15q7⟩ := c14.2.2.2.2.2 q7 (by rw [kk11q7]; exact Nat.succ_ne_zero _) hqa8
  have kk15q7 := oK15q7.trans kk11q7
  have ii15q7 := oI15q7.trans ii11q7
  have rr15q7 := (congrFun oR15q7 0).trans rr11q7
  obtain ⟨oK15tk, -, oI15tk, oR15tk⟩ := c14.2.2.2.2.2 tk (by rw [kk11tk]; exact Nat.succ_ne_zero _) ne_tk
  have kk15tk := oK15tk.trans kk11tk
  have rr15tk := (congrFun oR15tk 0).trans rr11tk
  have cB15 := c14
  have cx15 := c14.rebase
  refine r_aload_n hC dX8_init_41 0 rfl ?_
  obtain ⟨oK16q2, -, oI16q2, oR16q2⟩ := cx15.2.2.2.2.2 q2 (by rw [kk15q2]; exact Nat.succ_ne_zero _) hqa3
  have kk16q2 := oK16q2.trans kk15q2
  have ii16q2 := oI16q2.trans ii15q2
  obtain ⟨oK16q7, -, oI16q7, oR16q7⟩ := cx15.2.2.2.2.2 q7 (by rw [kk15q7]; exact Nat.succ_ne_zero _) hqa8
  have kk16q7 := oK16q7.trans kk15q7
  have ii16q7 := oI16q7.trans ii15q7
  have rr16q7 := (congrFun oR16q7 0).trans rr15q7
  obtain ⟨oK16tk, -, oI16tk, oR16tk⟩ := cx15.2.2.2.2.2 tk (by rw [kk15tk]; exact Nat.succ_ne_zero _) ne_tk
  have kk16tk := oK16tk.trans kk15tk
  have rr16tk := (congrFun oR16tk 0).trans rr15tk
  obtain ⟨oK16q12, -, oI16q12, oR16q12⟩ := cx15.2.2.2.2.2 q12 (by rw [hk13]; exact Nat.succ_ne_zero _) hqa13
  have kk16q12 := oK16q12.trans hk13
  have ii16q12 := oI16q12.trans z_q12
  have rr16q12 := (congrFun oR16q12 0).trans rq_q12
  obtain ⟨oK16lk13, -, oI16lk13, oR16lk13⟩ := cx15.2.2.2.2.2 lk13 (by rw [klk13]; exact Nat.succ_ne_zero _) ne_lk13
  have kk16lk13 := oK16lk13.trans klk13
  have ii16lk13 := oI16lk13.trans il13
  have cB16 := cx15
  have cx16 := cx15.rebase
  refine r_new hC (ci := 1) (ty := tyX1) rfl u1_in tyX1_ok df1 mT_1_105 mT_1_106 mT_1_5 rfl (by decide) (by decide) dX8_init_42 (fun q17 hq17 => ?_)
  refine r_dup hC dX8_init_45 rfl ?_
  refine r_callI hC (As := []) (rest := [.ref q17, .ref a0]) (c_X1_init g (xL X) _ _ _ _ _ (cx16.1.growO hq17 rfl) q17 (va_up_self _ _ _) (by funext j; exact z2_self _ _ _ _) (fun j => z2_self _ _ _ _) (UU.new (kd := 21 + 1) u14 hq17 (by decide)) (UN.fresh u14 hq17)) mT_1_109 mT_1_5 mT_1_107 mT_1_108 rfl okX1_init ⟨by decide, by decide⟩ rfl rfl (Nat.le_of_ble_eq_true rfl) ⟨by decide, by decide⟩ dX8_init_46 (aV5 (F := fun st M => P g X 2 49 [(0, .ref a0)] st _ _ M) fun M18 h18 => ?_)
  obtain ⟨K18, len18, I18, J18, R18⟩ := M18
  obtain ⟨h18, u18, uq18, uy18⟩ := h18
  dsimp only at u18 uq18 uy18
  obtain ⟨h18, ex18⟩ := h18
  dsimp only at ex18
  have mo18 : ∀ y, K y ≠ 0 → K18 y = K y := fun y hy => (made_oldK hq17 h18 y (by rw [mo13 y hy]; exact hy)).trans (mo13 y hy)
  have un18 : UN R18 a0 := uy18 a0 (by rw [cx16.kq hq17]; omega) (by rw [cx16.kq hq17]; omega) (un14.new)
  have uk18 : ∀ y, K y ≠ 0 → K y ≠ 6 → UN R y → UN R18 y := fun y y1 y2 y3 => uy18 y (by rw [kupy hq17 (mo13 y y1) y1]; exact y1) (by rw [kupy hq17 (mo13 y y1) y1]; exact y2) (UN.new (uk14 y y1 y2 y3))
  obtain ⟨c18, hk18, hqa18, hz18⟩ := cx16.after hq17 h18
  show P g X 2 49 [(0, .ref a0)] [.ref q17, .ref a0] _ _ (K18, len18, I18, J18, R18)
  refine r_putr hC 3 (ci := 8) rfl u8_in tyX8_ok nmX8 (by decide) mT_2_81 rfl rfl rfl dX8_init_49 (c18.2.1) rfl rfl (fun R19 eR19 => ?_)
  have u19 := u18.put (Or.inl uq18) (by rw [hk18]; exact Nat.succ_ne_zero _) eR19
  have un19 := un18.put hqa18 eR19
  have uk19 : ∀ y, K y ≠ 0 → K y ≠ 6 → UN R y → UN R19 y := fun y y1 y2 y3 => (uk18 y y1 y2 y3).put (fun z => y1 (by rw [← mo13 y y1, ← z]; exact hq17)) eR19
  have c19 := c18.old (n := len18 q17) (by decide) hk18 rfl (by decide) hqa18 (by simp) eR19
  have z_q17 : I18 q17 = fun _ => 0 := hz18
  obtain ⟨lk18, rh18, klk18, fl18x, il18⟩ := ex18
  have ne_lk18 : lk18 ≠ a0 := fun z => by rw [z, c19.2.1] at klk18; exact absurd klk18 (by decide)
  have rq_q17 : R19 q17 0 = some lk18 := by rw [eR19, up2_ne _ _ (Or.inl hqa18)]; exact rh18
  have nehs : q12 ≠ q17 := fun z => by rw [z, hq17] at kk16q12; exact absurd kk16q12 (by decide)
  have nels : lk13 ≠ lk18 := fun z => by rw [← z, va_up_ne _ _ (fun y => by rw [y, hq17] at kk16lk13; exact absurd kk16lk13 (by decide))] at fl18x; rw [fl18x] at kk16lk13; exact absurd kk16lk13 (by decide)
  obtain ⟨oK20q2, -, oI20q2, oR20q2⟩ := c19.2.2.2.2.2 q2 (by rw [kk16q2]; exact Nat.succ_ne_zero _) hqa3
  have kk20q2 := oK20q2.trans kk16q2
  have ii20q2 := oI20q2.trans ii16q2
  obtain ⟨oK20q7, -, oI20q7, oR20q7⟩ := c19.2.2.2.2.2 q7 (by rw [kk16q7]; exact Nat.succ_ne_zero _) hqa8
  have kk20q7 := oK20q7.trans kk16q7
  have ii20q7 := oI20q7.trans ii16q7
  have rr20q7 := (congrFun oR20q7 0).trans rr16q7
  obtain ⟨oK20tk, -, oI20tk, oR20tk⟩ := c19.2.2.2.2.2 tk (by rw [kk16tk]; exact Nat.succ_ne_zero _) ne_tk
  have kk20tk := oK20tk.trans kk16tk
  have rr20tk := (congrFun oR20tk 0).trans rr16tk
  obtain ⟨oK20q12, -, oI20q12, oR20q12⟩ := c19.2.2.2.2.2 q12 (by rw [kk16q12]; exact Nat.succ_ne_zero _) hqa13
  have kk20q12 := oK20q12.trans kk16q12
  have ii20q12 := oI20q12.trans ii16q12
  have rr20q12 := (congrFun oR20q12 0).trans rr16q12
  obtain ⟨oK20lk13, -, oI20lk13, oR20lk13⟩ := c19.2.2.2.2.2 lk13 (by rw [kk16lk13]; exact Nat.succ_ne_zero _) ne_lk13
  have kk20lk13 := oK20lk13.trans kk16lk13
  have ii20lk13 := oI20lk13.trans ii16lk13
  have cB20 := c19
  have cx20 := c19.rebase
  refine r_aload_n hC dX8_init_52 0 rfl ?_
  refine r_bipush hC (v := (60)) dX8_init_53 (by decide) (by decide) (fun z21 ez21 tz21 => ?_)
  refine r_newarray hC (atype := .int) (ty := .int) (kd := 41) (t := 1) (N := 60) rfl mT_1_152 rfl rfl rfl (by decide) (fun _ h => h) (60, arE 1 (K18, len18, fun _ _ => 0, fun _ _ => 0, fun _ _ => none) 0) rfl (ha_1 60 _ _) (nlt_0 (by omega)) (cl_of (by omega)) (by decide) (by decide) (by decide) dX8_init_55 (fun q22 hq22 => ?_)
  refine r_putrF hC 4 (ci := 8) hNm rfl u8_in tyX8_ok nmX8 (by decide) mT_2_82 rfl rfl rfl rfl dX8_init_57 (cx20.kq hq22) rfl rfl (fun R22 eR22 => ?_)
  have u22 := (UU.new (kd := 41) u19 hq22 (by first | decide | omega)).put (Or.inl (UN.fresh u19 hq22)) (by rw [va_up_self]; first | decide | omega) eR22
  have un22 := (UN.new un19).put (fun z => cx20.ne0 (by rw [← z]; exact hq22)) eR22
  have mo22 : ∀ y, K y ≠ 0 → va_up K18 q22 (41) y = K y := fun y hy => kupy hq22 (mo18 y hy) hy
  have uk22 : ∀ y, K y ≠ 0 → K y ≠ 6 → UN R y → UN R22 y := fun y y1 y2 y3 => (UN.new (uk19 y y1 y2 y3)).put (fun z => y1 (by rw [← mo18 y y1, ← z]; exact hq22)) eR22
  have ar22 : K q22 = 0 := Classical.byContradiction fun z => z (by rw [← mo18 q22 z]; exact hq22)
  have c22 := cx20.row (n := 60) (kd := 41) (k := 4) (by decide) hq22 rfl (by simp) eR22
  generalize va_up K18 q22 (41) = K22 at c22 u22 mo22 ⊢
  generalize va_up len18 q22 60 = len22 at c22 ⊢
  generalize z2 I18 q22 0 = I22 at c22 ⊢
  generalize z2 J18 q22 0 = J22
  refine r_aload_n hC dX8_init_60 0 rfl ?_
  refine r_bipush hC (v := (6)) dX8_init_61 (by decide) (by decide) (fun z23 ez23 tz23 => ?_)
  refine r_anewarray hC (kd := 34) (t := 4) (N := 6) mT_2_18 hC.2.2.2.2.2.2.2.1.2.2.2.1 rfl rfl rfl (by decide) (by decide) (nlt_0 (by omega)) (cl_of (by omega)) (by decide) (by decide) (by decide) dX8_init_63 (fun q24 hq24 => ?_)
  refine r_putrF hC 5 (ci := 8) hNm rfl u8_in tyX8_ok nmX8 (by decide) mT_2_83 rfl rfl rfl rfl dX8_init_66 (c22.kq hq24) rfl rfl (fun R24 eR24 => ?_)
  have u24 := (UU.new (kd := 34) u22 hq24 (by first | decide | omega)).put (Or.inl (UN.fresh u22 hq24)) (by rw [va_up_self]; first | decide | omega) eR24
  have un24 := (UN.new un22).put (fun z => c22.ne0 (by rw [← z]; exact hq24)) eR24
  have mo24 : ∀ y, K y ≠ 0 → va_up K22 q24 (34) y = K y := fun y hy => kupy hq24 (mo22 y hy) hy
  have uk24 : ∀ y, K y ≠ 0 → K y ≠ 6 → UN R y → UN R24 y := fun y y1 y2 y3 => (UN.new (uk22 y y1 y2 y3)).put (fun z => y1 (by rw [← mo22 y y1, ← z]; exact hq24)) eR24
  have ar24 : K q24 = 0 := Classical.byContradiction fun z => z (by rw [← mo22 q24 z]; exact hq24)
  have hz0q24 := c22.fresh hq24
  have c24 := c22.row (n := 6) (kd := 34) (k := 5) (by decide) hq24 rfl (by simp) eR24
  generalize va_up K22 q24 (34) = K24 at c24 u24 mo24 ⊢
  generalize va_up len22 q24 6 = len24 at c24 ⊢
  generalize z2 I22 q24 0 = I24 at c24 ⊢
  generalize z2 J22 q24 0 = J24
  refine r_iconst hC (v := (0)) dX8_init_69 (by decide) (by decide) (fun z25 ez25 tz25 => ?_)
  refine r_istore_n hC (lv' := [(1, .int z25), (0, .ref a0)]) dX8_init_70 (by decide) rfl ?_
  have fl26 : Fil q24 0 1 K24 R24 := fun i hi => absurd hi (by omega)
  refine r_iload_n hC dX8_init_71 0 rfl ?_
  refine r_bipush hC (v := (6)) dX8_init_72 (by decide) (by decide) (fun z27 ez27 tz27 => ?_)
  refine r_icmp_ge hC (tgt := 96) dX8_init_74 (by decide) (fun cc28 => absurd cc28 (by omega)) (fun cc28 => ?_)
  refine r_aload_n hC dX8_init_77 1 rfl ?_
  have ha29 := c24.2.2.2.1 (5, q24, 34, 6) (by simp)
  refine r_getr hC 5 (ci := 8) rfl u8_in (by decide) mT_2_83 dX8_init_78 c24.2.1 rfl rfl ha29.1 ?_
  refine r_iload_n hC dX8_init_81 0 rfl ?_
  refine r_new hC (ci := 0) (ty := tyX0) rfl u0_in tyX0_ok df0 mT_2_18 mT_2_20 mT_1_8 rfl (by decide) (by decide) dX8_init_82 (fun q30 hq30 => ?_)
  refine r_dup hC dX8_init_85 rfl ?_
  refine r_callIN hC (As := []) (rest := [.ref q30, .int z25, .ref q24]) (c_X0_init g (xL X) _ _ _ _ _ (c24.1.growO hq30 rfl) q30 (va_up_self _ _ _) (by funext j; exact z2_self _ _ _ _) (fun j => z2_self _ _ _ _) (UU.new (kd := 21 + 0) u24 hq30 (by decide)) (UN.fresh u24 hq30)) mT_2_23 mT_1_8 nM_3 mT_2_22 rfl okX0_init ⟨by decide, by decide⟩ rfl rfl (Nat.le_of_ble_eq_true rfl) ⟨by decide, by decide⟩ dX8_init_86 (aV5 (F := fun st M => P g X 2 89 [(1, .int z25), (0, .ref a0)] st _ _ M) fun M31 h31 => ?_)
  obtain ⟨K31, len31, I31, J31, R31⟩ := M31
  obtain ⟨h31, u31, uq31, uy31⟩ := h31
  dsimp only at u31 uq31 uy31
  have mo31 : ∀ y, K y ≠ 0 → K31 y = K y := fun y hy => (made_oldK hq30 h31 y (by rw [mo24 y hy]; exact hy)).trans (mo24 y hy)
  have un31 : UN R31 a0 := uy31 a0 (by rw [c24.kq hq30]; omega) (by rw [c24.kq hq30]; omega) (un24.new)
  have uk31 : ∀ y, K y ≠ 0 → K y ≠ 6 → UN R y → UN R31 y := fun y y1 y2 y3 => uy31 y (by rw [kupy hq30 (mo24 y y1) y1]; exact y1) (by rw [kupy hq30 (mo24 y y1) y1]; exact y2) (UN.new (uk24 y y1 y2 y3))
  obtain ⟨c31, hk31, hqa31, hz31⟩ := c24.after hq30 h31
  show P g X 2 89 [(1, .int z25), (0, .ref a0)] [.ref q30, .int z25, .ref q24] _ _ (K31, len31, I31, J31, R31)
  obtain ⟨fl31, ka31, la31⟩ := fl26.after (by rw [ha29.2.1]; exact Nat.succ_ne_zero _) hq30 h31
  have kb31 : K31 q24 = 34 := ka31.trans ha29.2.1
  have lb31 : len31 q24 = 6 := la31.trans ha29.2.2.2
  refine r_aastore hC (ci := 0) (t := 4) (by rw [kb31]; decide) (by rw [kb31]; rfl) (by rw [kb31]; rfl) (by decide) (by rw [hk31]; rfl) rfl (by omega) (by rw [lb31]; omega) dX8_init_89 (fun R32 eR32 => ?_)
  rw [cl_of (z := z25) (n := 0) (by omega)] at eR32
  have u32 := u31.put (Or.inl uq31) (by rw [hk31]; exact Nat.succ_ne_zero _) eR32
  have un32 := un31.put hqa31 eR32
  have uk32 : ∀ y, K y ≠ 0 → K y ≠ 6 → UN R y → UN R32 y := fun y y1 y2 y3 => (uk31 y y1 y2 y3).put (fun z => y1 (by rw [← mo24 y y1, ← z]; exact hq30)) eR32
  obtain ⟨c32, fl32⟩ := c31.elem (b := q24) kb31 rfl ha29.2.2.1.1 hz0q24 fl31 hk31 (by decide) eR32
  obtain ⟨w33, ew33⟩ : ∃ z : Int32, z = z25 + Int32.ofInt 1 := ⟨_, rfl⟩
  refine r_iinc hC (j := 0) (v := w33) (lv' := [(1, .int w33), (0, .ref a0)]) dX8_init_90 rfl (by rw [ew33]) (by decide) rfl ?_
  have tw33 : w33.toInt = 1 := by rw [ew33, ti_add (b := Int32.ofInt 1) (by show _ ≤ _ + (1 : Int); omega) (by show _ + (1 : Int) ≤ _; omega)]; show _ + (1 : Int) = _; omega
  refine r_goto hC (tgt := 71) dX8_init_93 (by decide) ?_
  refine r_iload_n hC dX8_init_71 0 rfl ?_
  refine r_bipush hC (v := (6)) dX8_init_72 (by decide) (by decide) (fun z34 ez34 tz34 => ?_)
  refine r_icmp_ge hC (tgt := 96) dX8_init_74 (by decide) (fun cc35 => absurd cc35 (by omega)) (fun cc35 => ?_)
  refine r_aload_n hC dX8_init_77 1 rfl ?_
  have ha36 := c32.2.2.2.1 (5, q24, 34, 6) (by simp)
  refine r_getr hC 5 (ci := 8) rfl u8_in (by decide) mT_2_83 dX8_init_78 c32.2.1 rfl rfl ha36.1 ?_
  refine r_iload_n hC dX8_init_81 0 rfl ?_
  refine r_new hC (ci := 0) (ty := tyX0) rfl u0_in tyX0_ok df0 mT_2_18 mT_2_20 mT_1_8 rfl (by decide) (by decide) dX8_init_82 (fun q37 hq37 => ?_)
  refine r_dup hC dX8_init_85 rfl ?_
  refine r_callIN hC (As := []) (rest := [.ref q37, .int w33, .ref q24]) (c_X0_init g (xL X) _ _ _ _ _ (c32.1.growO hq37 rfl) q37 (va_up_self _ _ _) (by funext j; exact z2_self _ _ _ _) (fun j => z2_self _ _ _ _) (UU.new (kd := 21 + 0) u32 hq37 (by decide)) (UN.fresh u32 hq37)) mT_2_23 mT_1_8 nM_3 mT_2_22 rfl okX0_init ⟨by decide, by decide⟩ rfl rfl (Nat.le_of_ble_eq_true rfl) ⟨by decide, by decide⟩ dX8_init_86 (aV5 (F := fun st M => P g X 2 89 [(1, .int w33), (0, .ref a0)] st _ _ M) fun M38 h38 => ?_)
  obtain ⟨K38, len38, I38, J38, R38⟩ := M38
  obtain ⟨h38, u38, uq38, uy38⟩ := h38
  dsimp only at u38 uq38 uy38
  have mo38 : ∀ y, K y ≠ 0 → K38 y = K y := fun y hy => (made_oldK hq37 h38 y (by rw [mo31 y hy]; exact hy)).trans (mo31 y hy)
  have un38 : UN R38 a0 := uy38 a0 (by rw [c32.kq hq37]; omega) (by rw [c32.kq hq37]; omega) (un32.new)
  have uk38 : ∀ y, K y ≠ 0 → K y ≠ 6 → UN R y → UN R38 y := fun y y1 y2 y3 => uy38 y (by rw [kupy hq37 (mo31 y y1) y1]; exact y1) (by rw [kupy hq37 (mo31 y y1) y1]; exact y2) (UN.new (uk32 y y1 y2 y3))
  obtain ⟨c38, hk38, hqa38, hz38⟩ := c32.after hq37 h38
  show P g X 2 89 [(1, .int w33), (0, .ref a0)] [.ref q37, .int w33, .ref q24] _ _ (K38, len38, I38, J38, R38)
  obtain ⟨fl38, ka38, la38⟩ := fl32.after (by rw [ha36.2.1]; exact Nat.succ_ne_zero _) hq37 h38
  have kb38 : K38 q24 = 34 := ka38.trans ha36.2.1
  have lb38 : len38 q24 = 6 := la38.trans ha36.2.2.2
  refine r_aastore hC (ci := 0) (t := 4) (by rw [kb38]; decide) (by rw [kb38]; rfl) (by rw [kb38]; rfl) (by decide) (by rw [hk38]; rfl) rfl (by omega) (by rw [lb38]; omega) dX8_init_89 (fun R39 eR39 => ?_)
  rw [cl_of (z := w33) (n := 1) (by omega)] at eR39
  have u39 := u38.put (Or.inl uq38) (by rw [hk38]; exact Nat.succ_ne_zero _) eR39
  have un39 := un38.put hqa38 eR39
  have uk39 : ∀ y, K y ≠ 0 → K y ≠ 6 → UN R y → UN R39 y := fun y y1 y2 y3 => (uk38 y y1 y2 y3).put (fun z => y1 (by rw [← mo31 y y1, ← z]; exact hq37)) eR39
  obtain ⟨c39, fl39⟩ := c38.elem (b := q24) kb38 rfl ha36.2.2.1.1 hz0q24 fl38 hk38 (by decide) eR39
  obtain ⟨w40, ew40⟩ : ∃ z : Int32, z = w33 + Int32.ofInt 1 := ⟨_, rfl⟩
  refine r_iinc hC (j := 0) (v := w40) (lv' := [(1, .int w40), (0, .ref a0)]) dX8_init_90 rfl (by rw [ew40]) (by decide) rfl ?_
  have tw40 : w40.toInt = 2 := by rw [ew40, ti_add (b := Int32.ofInt 1) (by show _ ≤ _ + (1 : Int); omega) (by show _ + (1 : Int) ≤ _; omega)]; show _ + (1 : Int) = _; omega
  refine r_goto hC (tgt := 71) dX8_init_93 (by decide) ?_
  refine r_iload_n hC dX8_init_71 0 rfl ?_
  refine r_bipush hC (v := (6)) dX8_init_72 (by decide) (by decide) (fun z41 ez41 tz41 => ?_)
  refine r_icmp_ge hC (tgt := 96) dX8_init_74 (by decide) (fun cc42 => absurd cc42 (by omega)) (fun cc42 => ?_)
  refine r_aload_n hC dX8_init_77 1 rfl ?_
  have ha43 := c39.2.2.2.1 (5, q24, 34, 6) (by simp)
  refine r_getr hC 5 (ci := 8) rfl u8_in (by decide) mT_2_83 dX8_init_78 c39.2.1 rfl rfl ha43.1 ?_
  refine r_iload_n hC dX8_init_81 0 rfl ?_
  refine r_new hC (ci := 0) (ty := tyX0) rfl u0_in tyX0_ok df0 mT_2_18 mT_2_20 mT_1_8 rfl (by decide) (by decide) dX8_init_82 (fun q44 hq44 => ?_)
  refine r_dup hC dX8_init_85 rfl ?_
  refine r_callIN hC (As := []) (rest := [.ref q44, .int w40, .ref q24]) (c_X0_init g (xL X) _ _ _ _ _ (c39.1.growO hq44 rfl) q44 (va_up_self _ _ _) (by funext j; exact z2_self _ _ _ _) (fun j => z2_self _ _ _ _) (UU.new (kd := 21 + 0) u39 hq44 (by decide)) (UN.fresh u39 hq44)) mT_2_23 mT_1_8 nM_3 mT_2_22 rfl okX0_init ⟨by decide, by decide⟩ rfl rfl (Nat.le_of_ble_eq_true rfl) ⟨by decide, by decide⟩ dX8_init_86 (aV5 (F := fun st M => P g X 2 89 [(1, .int w40), (0, .ref a0)] st _ _ M) fun M45 h45 => ?_)
  obtain ⟨K45, len45, I45, J45, R45⟩ := M45
  obtain ⟨h45, u45, uq45, uy45⟩ := h45
  dsimp only at u45 uq45 uy45
  have mo45 : ∀ y, K y ≠ 0 → K45 y = K y := fun y hy => (made_oldK hq44 h45 y (by rw [mo38 y hy]; exact hy)).trans (mo38 y hy)
  have un45 : UN R45 a0 := uy45 a0 (by rw [c39.kq hq44]; omega) (by rw [c39.kq hq44]; omega) (un39.new)
  have uk45 : ∀ y, K y ≠ 0 → K y ≠ 6 → UN R y → UN R45 y := fun y y1 y2 y3 => uy45 y (by rw [kupy hq44 (mo38 y y1) y1]; exact y1) (by rw [kupy hq44 (mo38 y y1) y1]; exact y2) (UN.new (uk39 y y1 y2 y3))
  obtain ⟨c45, hk45, hqa45, hz45⟩ := c39.after hq44 h45
  show P g X 2 89 [(1, .int w40), (0, .ref a0)] [.ref q44, .int w40, .ref q24] _ _ (K45, len45, I45, J45, R45)
  obtain ⟨fl45, ka45, la45⟩ := fl39.after (by rw [ha43.2.1]; exact Nat.succ_ne_zero _) hq44 h45
  have kb45 : K45 q24 = 34 := ka45.trans ha43.2.1
  have lb45 : len45 q24 = 6 := la45.trans ha43.2.2.2
  refine r_aastore hC (ci := 0) (t := 4) (by rw [kb45]; decide) (by rw [kb45]; rfl) (by rw [kb45]; rfl) (by decide) (by rw [hk45]; rfl) rfl (by omega) (by rw [lb45]; omega) dX8_init_89 (fun R46 eR46 => ?_)
  rw [cl_of (z := w40) (n := 2) (by omega)] at eR46
  have u46 := u45.put (Or.inl uq45) (by rw [hk45]; exact Nat.succ_ne_zero _) eR46
  have un46 := un45.put hqa45 eR46
  have uk46 : ∀ y, K y ≠ 0 → K y ≠ 6 → UN R y → UN R46 y := fun y y1 y2 y3 => (uk45 y y1 y2 y3).put (fun z => y1 (by rw [← mo38 y y1, ← z]; exact hq44)) eR46
  obtain ⟨c46, fl46⟩ := c45.elem (b := q24) kb45 rfl ha43.2.2.1.1 hz0q24 fl45 hk45 (by decide) eR46
  obtain ⟨w47, ew47⟩ : ∃ z : Int32, z = w40 + Int32.ofInt 1 := ⟨_, rfl⟩
  refine r_iinc hC (j := 0) (v := w47) (lv' := [(1, .int w47), (0, .ref a0)]) dX8_init_90 rfl (by rw [ew47]) (by decide) rfl ?_
  have tw47 : w47.toInt = 3 := by rw [ew47, ti_add (b := Int32.ofInt 1) (by show _ ≤ _ + (1 : Int); omega) (by show _ + (1 : Int) ≤ _; omega)]; show _ + (1 : Int) = _; omega
  refine r_goto hC (tgt := 71) dX8_init_93 (by decide) ?_
  refine r_iload_n hC dX8_init_71 0 rfl ?_
  refine r_bipush hC (v := (6)) dX8_init_72 (by decide) (by decide) (fun z48 ez48 tz48 => ?_)
  refine r_icmp_ge hC (tgt := 96) dX8_init_74 (by decide) (fun cc49 => absurd cc49 (by omega)) (fun cc49 => ?_)
  refine r_aload_n hC dX8_init_77 1 rfl ?_
  have ha50 := c46.2.2.2.1 (5, q24, 34, 6) (by simp)
  refine r_getr hC 5 (ci := 8) rfl u8_in (by decide) mT_2_83 dX8_init_78 c46.2.1 rfl rfl ha50.1 ?_
  refine r_iload_n hC dX8_init_81 0 rfl ?_
  refine r_new hC (ci := 0) (ty := tyX0) rfl u0_in tyX0_ok df0 mT_2_18 mT_2_20 mT_1_8 rfl (by decide) (by decide) dX8_init_82 (fun q51 hq51 => ?_)
  refine r_dup hC dX8_init_85 rfl ?_
  refine r_callIN hC (As := []) (rest := [.ref q51, .int w47, .ref q24]) (c_X0_init g (xL X) _ _ _ _ _ (c46.1.growO hq51 rfl) q51 (va_up_self _ _ _) (by funext j; exact z2_self _ _ _ _) (fun j => z2_self _ _ _ _) (UU.new (kd := 21 + 0) u46 hq51 (by decide)) (UN.fresh u46 hq51)) mT_2_23 mT_1_8 nM_3 mT_2_22 rfl okX0_init ⟨by decide, by decide⟩ rfl rfl (Nat.le_of_ble_eq_true rfl) ⟨by decide, by decide⟩ dX8_init_86 (aV5 (F := fun st M => P g X 2 89 [(1, .int w47), (0, .ref a0)] st _ _ M) fun M52 h52 => ?_)
  obtain ⟨K52, len52, I52, J52, R52⟩ := M52
  obtain ⟨h52, u52, uq52, uy52⟩ := h52
  dsimp only at u52 uq52 uy52
  have mo52 : ∀ y, K y ≠ 0 → K52 y = K y := fun y hy => (made_oldK hq51 h52 y (by rw [mo45 y hy]; exact hy)).trans (mo45 y hy)
  have un52 : UN R52 a0 := uy52 a0 (by rw [c46.kq hq51]; omega) (by rw [c46.kq hq51]; omega) (un46.new)
  have uk52 : ∀ y, K y ≠ 0 → K y ≠ 6 → UN R y → UN R52 y := fun y y1 y2 y3 => uy52 y (by rw [kupy hq51 (mo45 y y1) y1]; exact y1) (by rw [kupy hq51 (mo45 y y1) y1]; exact y2) (UN.new (uk46 y y1 y2 y3))
  obtain ⟨c52, hk52, hqa52, hz52⟩ := c46.after hq51 h52
  show P g X 2 89 [(1, .int w47), (0, .ref a0)] [.ref q51, .int w47, .ref q24] _ _ (K52, len52, I52, J52, R52)
  obtain ⟨fl52, ka52, la52⟩ := fl46.after (by rw [ha50.2.1]; exact Nat.succ_ne_zero _) hq51 h52
  have kb52 : K52 q24 = 34 := ka52.trans ha50.2.1
  have lb52 : len52 q24 = 6 := la52.trans ha50.2.2.2
  refine r_aastore hC (ci := 0) (t := 4) (by rw [kb52]; decide) (by rw [kb52]; rfl) (by rw [kb52]; rfl) (by decide) (by rw [hk52]; rfl) rfl (by omega) (by rw [lb52]; omega) dX8_init_89 (fun R53 eR53 => ?_)
  rw [cl_of (z := w47) (n := 3) (by omega)] at eR53
  have u53 := u52.put (Or.inl uq52) (by rw [hk52]; exact Nat.succ_ne_zero _) eR53
  have un53 := un52.put hqa52 eR53
  have uk53 : ∀ y, K y ≠ 0 → K y ≠ 6 → UN R y → UN R53 y := fun y y1 y2 y3 => (uk52 y y1 y2 y3).put (fun z => y1 (by rw [← mo45 y y1, ← z]; exact hq51)) eR53
  obtain ⟨c53, fl53⟩ := c52.elem (b := q24) kb52 rfl ha50.2.2.1.1 hz0q24 fl52 hk52 (by decide) eR53
  obtain ⟨w54, ew54⟩ : ∃ z : Int32, z = w47 + Int32.ofInt 1 := ⟨_, rfl⟩
  refine r_iinc hC (j := 0) (v := w54) (lv' := [(1, .int w54), (0, .ref a0)]) dX8_init_90 rfl (by rw [ew54]) (by decide) rfl ?_
  have tw54 : w54.toInt = 4 := by rw [ew54, ti_add (b := Int32.ofInt 1) (by show _ ≤ _ + (1 : Int); omega) (by show _ + (1 : Int) ≤ _; omega)]; show _ + (1 : Int) = _; omega
  refine r_goto hC (tgt := 71) dX8_init_93 (by decide) ?_
  refine r_iload_n hC dX8_init_71 0 rfl ?_
  refine r_bipush hC (v := (6)) dX8_init_72 (by decide) (by decide) (fun z55 ez55 tz55 => ?_)
  refine r_icmp_ge hC (tgt := 96) dX8_init_74 (by decide) (fun cc56 => absurd cc56 (by omega)) (fun cc56 => ?_)
  refine r_aload_n hC dX8_init_77 1 rfl ?_
  have ha57 := c53.2.2.2.1 (5, q24, 34, 6) (by simp)
  refine r_getr hC 5 (ci := 8) rfl u8_in (by decide) mT_2_83 dX8_init_78 c53.2.1 rfl rfl ha57.1 ?_
  refine r_iload_n hC dX8_init_81 0 rfl ?_
  refine r_new hC (ci := 0) (ty := tyX0) rfl u0_in tyX0_ok df0 mT_2_18 mT_2_20 mT_1_8 rfl (by decide) (by decide) dX8_init_82 (fun q58 hq58 => ?_)
  refine r_dup hC dX8_init_85 rfl ?_
  refine r_callIN hC (As := []) (rest := [.ref q58, .int w54, .ref q24]) (c_X0_init g (xL X) _ _ _ _ _ (c53.1.growO hq58 rfl) q58 (va_up_self _ _ _) (by funext j; exact z2_self _ _ _ _) (fun j => z2_self _ _ _ _) (UU.new (kd := 21 + 0) u53 hq58 (by decide)) (UN.fresh u53 hq58)) mT_2_23 mT_1_8 nM_3 mT_2_22 rfl okX0_init ⟨by decide, by decide⟩ rfl rfl (Nat.le_of_ble_eq_true rfl) ⟨by decide, by decide⟩ dX8_init_86 (aV5 (F := fun st M => P g X 2 89 [(1, .int w54), (0, .ref a0)] st _ _ M) fun M59 h59 => ?_)
  obtain ⟨K59, len59, I59, J59, R59⟩ := M59
  obtain ⟨h59, u59, uq59, uy59⟩ := h59
  dsimp only at u59 uq59 uy59
  have mo59 : ∀ y, K y ≠ 0 → K59 y = K y := fun y hy => (made_oldK hq58 h59 y (by rw [mo52 y hy]; exact hy)).trans (mo52 y hy)
  have un59 : UN R59 a0 := uy59 a0 (by rw [c53.kq hq58]; omega) (by rw [c53.kq hq58]; omega) (un53.new)
  have uk59 : ∀ y, K y ≠ 0 → K y ≠ 6 → UN R y → UN R59 y := fun y y1 y2 y3 => uy59 y (by rw [kupy hq58 (mo52 y y1) y1]; exact y1) (by rw [kupy hq58 (mo52 y y1) y1]; exact y2) (UN.new (uk53 y y1 y2 y3))
  obtain ⟨c59, hk59, hqa59, hz59⟩ := c53.after hq58 h59
  show P g X 2 89 [(1, .int w54), (0, .ref a0)] [.ref q58, .int w54, .ref q24] _ _ (K59, len59, I59, J59, R59)
  obtain ⟨fl59, ka59, la59⟩ := fl53.after (by rw [ha57.2.1]; exact Nat.succ_ne_zero _) hq58 h59
  have kb59 : K59 q24 = 34 := ka59.trans ha57.2.1
  have lb59 : len59 q24 = 6 := la59.trans ha57.2.2.2
  refine r_aastore hC (ci := 0) (t := 4) (by rw [kb59]; decide) (by rw [kb59]; rfl) (by rw [kb59]; rfl) (by decide) (by rw [hk59]; rfl) rfl (by omega) (by rw [lb59]; omega) dX8_init_89 (fun R60 eR60 => ?_)
  rw [cl_of (z := w54) (n := 4) (by omega)] at eR60
  have u60 := u59.put (Or.inl uq59) (by rw [hk59]; exact Nat.succ_ne_zero _) eR60
  have un60 := un59.put hqa59 eR60
  have uk60 : ∀ y, K y ≠ 0 → K y ≠ 6 → UN R y → UN R60 y := fun y y1 y2 y3 => (uk59 y y1 y2 y3).put (fun z => y1 (by rw [← mo52 y y1, ← z]; exact hq58)) eR60
  obtain ⟨c60, fl60⟩ := c59.elem (b := q24) kb59 rfl ha57.2.2.1.1 hz0q24 fl59 hk59 (by decide) eR60
  obtain ⟨w61, ew61⟩ : ∃ z : Int32, z = w54 + Int32.ofInt 1 := ⟨_, rfl⟩
  refine r_iinc hC (j := 0) (v := w61) (lv' := [(1, .int w61), (0, .ref a0)]) dX8_init_90 rfl (by rw [ew61]) (by decide) rfl ?_
  have tw61 : w61.toInt = 5 := by rw [ew61, ti_add (b := Int32.ofInt 1) (by show _ ≤ _ + (1 : Int); omega) (by show _ + (1 : Int) ≤ _; omega)]; show _ + (1 : Int) = _; omega
  refine r_goto hC (tgt := 71) dX8_init_93 (by decide) ?_
  refine r_iload_n hC dX8_init_71 0 rfl ?_
  refine r_bipush hC (v := (6)) dX8_init_72 (by decide) (by decide) (fun z62 ez62 tz62 => ?_)
  refine r_icmp_ge hC (tgt := 96) dX8_init_74 (by decide) (fun cc63 => absurd cc63 (by omega)) (fun cc63 => ?_)
  refine r_aload_n hC dX8_init_77 1 rfl ?_
  have ha64 := c60.2.2.2.1 (5, q24, 34, 6) (by simp)
  refine r_getr hC 5 (ci := 8) rfl u8_in (by decide) mT_2_83 dX8_init_78 c60.2.1 rfl rfl ha64.1 ?_
  refine r_iload_n hC dX8_init_81 0 rfl ?_
  refine r_new hC (ci := 0) (ty := tyX0) rfl u0_in tyX0_ok df0 mT_2_18 mT_2_20 mT_1_8 rfl (by decide) (by decide) dX8_init_82 (fun q65 hq65 => ?_)
  refine r_dup hC dX8_init_85 rfl ?_
  refine r_callIN hC (As := []) (rest := [.ref q65, .int w61, .ref q24]) (c_X0_init g (xL X) _ _ _ _ _ (c60.1.growO hq65 rfl) q65 (va_up_self _ _ _) (by funext j; exact z2_self _ _ _ _) (fun j => z2_self _ _ _ _) (UU.new (kd := 21 + 0) u60 hq65 (by decide)) (UN.fresh u60 hq65)) mT_2_23 mT_1_8 nM_3 mT_2_22 rfl okX0_init ⟨by decide, by decide⟩ rfl rfl (Nat.le_of_ble_eq_true rfl) ⟨by decide, by decide⟩ dX8_init_86 (aV5 (F := fun st M => P g X 2 89 [(1, .int w61), (0, .ref a0)] st _ _ M) fun M66 h66 => ?_)
  obtain ⟨K66, len66, I66, J66, R66⟩ := M66
  obtain ⟨h66, u66, uq66, uy66⟩ := h66
  dsimp only at u66 uq66 uy66
  have mo66 : ∀ y, K y ≠ 0 → K66 y = K y := fun y hy => (made_oldK hq65 h66 y (by rw [mo59 y hy]; exact hy)).trans (mo59 y hy)
  have un66 : UN R66 a0 := uy66 a0 (by rw [c60.kq hq65]; omega) (by rw [c60.kq hq65]; omega) (un60.new)
  have uk66 : ∀ y, K y ≠ 0 → K y ≠ 6 → UN R y → UN R66 y := fun y y1 y2 y3 => uy66 y (by rw [kupy hq65 (mo59 y y1) y1]; exact y1) (by rw [kupy hq65 (mo59 y y1) y1]; exact y2) (UN.new (uk60 y y1 y2 y3))
  obtain ⟨c66, hk66, hqa66, hz66⟩ := c60.after hq65 h66
  show P g X 2 89 [(1, .int w61), (0, .ref a0)] [.ref q65, .int w61, .ref q24] _ _ (K66, len66, I66, J66, R66)
  obtain ⟨fl66, ka66, la66⟩ := fl60.after (by rw [ha64.2.1]; exact Nat.succ_ne_zero _) hq65 h66
  have kb66 : K66 q24 = 34 := ka66.trans ha64.2.1
  have lb66 : len66 q24 = 6 := la66.trans ha64.2.2.2
  refine r_aastore hC (ci := 0) (t := 4) (by rw [kb66]; decide) (by rw [kb66]; rfl) (by rw [kb66]; rfl) (by decide) (by rw [hk66]; rfl) rfl (by omega) (by rw [lb66]; omega) dX8_init_89 (fun R67 eR67 => ?_)
  rw [cl_of (z := w61) (n := 5) (by omega)] at eR67
  have u67 := u66.put (Or.inl uq66) (by rw [hk66]; exact Nat.succ_ne_zero _) eR67
  have un67 := un66.put hqa66 eR67
  have uk67 : ∀ y, K y ≠ 0 → K y ≠ 6 → UN R y → UN R67 y := fun y y1 y2 y3 => (uk66 y y1 y2 y3).put (fun z => y1 (by rw [← mo59 y y1, ← z]; exact hq65)) eR67
  obtain ⟨c67, fl67⟩ := c66.elem (b := q24) kb66 rfl ha64.2.2.1.1 hz0q24 fl66 hk66 (by decide) eR67
  obtain ⟨w68, ew68⟩ : ∃ z : Int32, z = w61 + Int32.ofInt 1 := ⟨_, rfl⟩
  refine r_iinc hC (j := 0) (v := w68) (lv' := [(1, .int w68), (0, .ref a0)]) dX8_init_90 rfl (by rw [ew68]) (by decide) rfl ?_
  have tw68 : w68.toInt = 6 := by rw [ew68, ti_add (b := Int32.ofInt 1) (by show _ ≤ _ + (1 : Int); omega) (by show _ + (1 : Int) ≤ _; omega)]; show _ + (1 : Int) = _; omega
  refine r_goto hC (tgt := 71) dX8_init_93 (by decide) ?_
  refine r_iload_n hC dX8_init_71 0 rfl ?_
  refine r_bipush hC (v := (6)) dX8_init_72 (by decide) (by decide) (fun z69 ez69 tz69 => ?_)
  refine r_icmp_ge hC (tgt := 96) dX8_init_74 (by decide) (fun cc70 => ?_) (fun cc70 => absurd cc70 (by omega))
  refine r_sealA (q := q24) (t := 4) (by decide) (c67.2.2.2.1 (5, q24, 34, 6) (by simp)).2.1 ?_
  have ksl71 := (c67.2.2.2.1 (5, q24, 34, 6) (by simp)).2.1
  dsimp only at ksl71
  have c71 := c67.full (n := 4) (by decide) fl67 hz0q24 (by simp)
  have u71 := UU.seal (a := q24) (v := 44) u67 (by rw [ksl71]; decide) (by decide)
  have mo71 : ∀ y, K y ≠ 0 → va_up K66 q24 44 y = K y := fun y hy => by rw [va_up_ne _ _ (fun z => hy (by rw [z]; exact ar24))]; exact mo66 y hy
  generalize va_up K66 q24 44 = K71 at c71 u71 mo71 ⊢
  refine r_aload_n hC dX8_init_96 1 rfl ?_
  refine r_bipush hC (v := (6)) dX8_init_97 (by decide) (by decide) (fun z72 ez72 tz72 => ?_)
  refine r_newarray hC (atype := .boolean) (ty := .boolean) (kd := 43) (t := 3) (N := 6) rfl mT_2_77 rfl rfl rfl (by decide) (fun _ h => h) (6, arE 3 (K71, len66, fun _ _ => 0, fun _ _ => 0, fun _ _ => none) 0) rfl (ha_3 6 _ _) (nlt_0 (by omega)) (cl_of (by omega)) (by decide) (by decide) (by decide) dX8_init_99 (fun q73 hq73 => ?_)
  refine r_putrF hC 6 (ci := 8) hNm rfl u8_in tyX8_ok nmX8 (by decide) mT_2_84 rfl rfl rfl rfl dX8_init_101 (c71.kq hq73) rfl rfl (fun R73 eR73 => ?_)
  have u73 := (UU.new (kd := 43) u71 hq73 (by first | decide | omega)).put (Or.inl (UN.fresh u71 hq73)) (by rw [va_up_self]; first | decide | omega) eR73
  have un73 := (UN.new un67).put (fun z => c71.ne0 (by rw [← z]; exact hq73)) eR73
  have mo73 : ∀ y, K y ≠ 0 → va_up K71 q73 (43) y = K y := fun y hy => kupy hq73 (mo71 y hy) hy
  have uk73 : ∀ y, K y ≠ 0 → K y ≠ 6 → UN R y → UN R73 y := fun y y1 y2 y3 => (UN.new (uk67 y y1 y2 y3)).put (fun z => y1 (by rw [← mo71 y y1, ← z]; exact hq73)) eR73
  have ar73 : K q73 = 0 := Classical.byContradiction fun z => z (by rw [← mo71 q73 z]; exact hq73)
  have c73 := c71.row (n := 6) (kd := 43) (k := 6) (by decide) hq73 rfl (by simp) eR73
  generalize va_up K71 q73 (43) = K73 at c73 u73 mo73 ⊢
  generalize va_up len66 q73 6 = len73 at c73 ⊢
  generalize z2 I66 q73 0 = I73 at c73 ⊢
  generalize z2 J66 q73 0 = J73
  refine r_aload_n hC dX8_init_104 1 rfl ?_
  refine r_bipush hC (v := (60)) dX8_init_105 (by decide) (by decide) (fun z74 ez74 tz74 => ?_)
  refine r_newarray hC (atype := .int) (ty := .int) (kd := 41) (t := 1) (N := 60) rfl mT_1_152 rfl rfl rfl (by decide) (fun _ h => h) (60, arE 1 (K73, len73, fun _ _ => 0, fun _ _ => 0, fun _ _ => none) 0) rfl (ha_1 60 _ _) (nlt_0 (by omega)) (cl_of (by omega)) (by decide) (by decide) (by decide) dX8_init_107 (fun q75 hq75 => ?_)
  refine r_putrF hC 7 (ci := 8) hNm rfl u8_in tyX8_ok nmX8 (by decide) mT_2_85 rfl rfl rfl rfl dX8_init_109 (c73.kq hq75) rfl rfl (fun R75 eR75 => ?_)
  have u75 := (UU.new (kd := 41) u73 hq75 (by first | decide | omega)).put (Or.inl (UN.fresh u73 hq75)) (by rw [va_up_self]; first | decide | omega) eR75
  have un75 := (UN.new un73).put (fun z => c73.ne0 (by rw [← z]; exact hq75)) eR75
  have mo75 : ∀ y, K y ≠ 0 → va_up K73 q75 (41) y = K y := fun y hy => kupy hq75 (mo73 y hy) hy
  have uk75 : ∀ y, K y ≠ 0 → K y ≠ 6 → UN R y → UN R75 y := fun y y1 y2 y3 => (UN.new (uk73 y y1 y2 y3)).put (fun z => y1 (by rw [← mo73 y y1, ← z]; exact hq75)) eR75
  have ar75 : K q75 = 0 := Classical.byContradiction fun z => z (by rw [← mo73 q75 z]; exact hq75)
  have c75 := c73.row (n := 60) (kd := 41) (k := 7) (by decide) hq75 rfl (by simp) eR75
  generalize va_up K73 q75 (41) = K75 at c75 u75 mo75 ⊢
  generalize va_up len73 q75 60 = len75 at c75 ⊢
  generalize z2 I73 q75 0 = I75 at c75 ⊢
  generalize z2 J73 q75 0 = J75
  refine r_aload_n hC dX8_init_112 1 rfl ?_
  obtain ⟨oK76q2, -, oI76q2, oR76q2⟩ := c75.2.2.2.2.2 q2 (by rw [kk20q2]; exact Nat.succ_ne_zero _) hqa3
  have kk76q2 := oK76q2.trans kk20q2
  have ii76q2 := oI76q2.trans ii20q2
  obtain ⟨oK76q7, -, oI76q7, oR76q7⟩ := c75.2.2.2.2.2 q7 (by rw [kk20q7]; exact Nat.succ_ne_zero _) hqa8
  have kk76q7 := oK76q7.trans kk20q7
  have ii76q7 := oI76q7.trans ii20q7
  have rr76q7 := (congrFun oR76q7 0).trans rr20q7
  obtain ⟨oK76tk, -, oI76tk, oR76tk⟩ := c75.2.2.2.2.2 tk (by rw [kk20tk]; exact Nat.succ_ne_zero _) ne_tk
  have kk76tk := oK76tk.trans kk20tk
  have rr76tk := (congrFun oR76tk 0).trans rr20tk
  obtain ⟨oK76q12, -, oI76q12, oR76q12⟩ := c75.2.2.2.2.2 q12 (by rw [kk20q12]; exact Nat.succ_ne_zero _) hqa13
  have kk76q12 := oK76q12.trans kk20q12
  have ii76q12 := oI76q12.trans ii20q12
  have rr76q12 := (congrFun oR76q12 0).trans rr20q12
  obtain ⟨oK76lk13, -, oI76lk13, oR76lk13⟩ := c75.2.2.2.2.2 lk13 (by rw [kk20lk13]; exact Nat.succ_ne_zero _) ne_lk13
  have kk76lk13 := oK76lk13.trans kk20lk13
  have ii76lk13 := oI76lk13.trans ii20lk13
  obtain ⟨oK76q17, -, oI76q17, oR76q17⟩ := c75.2.2.2.2.2 q17 (by rw [hk18]; exact Nat.succ_ne_zero _) hqa18
  have kk76q17 := oK76q17.trans hk18
  have ii76q17 := oI76q17.trans z_q17
  have rr76q17 := (congrFun oR76q17 0).trans rq_q17
  obtain ⟨oK76lk18, -, oI76lk18, oR76lk18⟩ := c75.2.2.2.2.2 lk18 (by rw [klk18]; exact Nat.succ_ne_zero _) ne_lk18
  have kk76lk18 := oK76lk18.trans klk18
  have ii76lk18 := oI76lk18.trans il18
  have cB76 := c75
  have cx76 := c75.rebase
  refine r_new hC (ci := 0) (ty := tyX0) rfl u0_in tyX0_ok df0 mT_2_18 mT_2_20 mT_1_8 rfl (by decide) (by decide) dX8_init_113 (fun q77 hq77 => ?_)
  refine r_dup hC dX8_init_116 rfl ?_
  refine r_callIN hC (As := []) (rest := [.ref q77, .ref a0]) (c_X0_init g (xL X) _ _ _ _ _ (cx76.1.growO hq77 rfl) q77 (va_up_self _ _ _) (by funext j; exact z2_self _ _ _ _) (fun j => z2_self _ _ _ _) (UU.new (kd := 21 + 0) u75 hq77 (by decide)) (UN.fresh u75 hq77)) mT_2_23 mT_1_8 nM_3 mT_2_22 rfl okX0_init ⟨by decide, by decide⟩ rfl rfl (Nat.le_of_ble_eq_true rfl) ⟨by decide, by decide⟩ dX8_init_117 (aV5 (F := fun st M => P g X 2 120 [(1, .int w68), (0, .ref a0)] st _ _ M) fun M78 h78 => ?_)
  obtain ⟨K78, len78, I78, J78, R78⟩ := M78
  obtain ⟨h78, u78, uq78, uy78⟩ := h78
  dsimp only at u78 uq78 uy78
  have mo78 : ∀ y, K y ≠ 0 → K78 y = K y := fun y hy => (made_oldK hq77 h78 y (by rw [mo75 y hy]; exact hy)).trans (mo75 y hy)
  have un78 : UN R78 a0 := uy78 a0 (by rw [cx76.kq hq77]; omega) (by rw [cx76.kq hq77]; omega) (un75.new)
  have uk78 : ∀ y, K y ≠ 0 → K y ≠ 6 → UN R y → UN R78 y := fun y y1 y2 y3 => uy78 y (by rw [kupy hq77 (mo75 y y1) y1]; exact y1) (by rw [kupy hq77 (mo75 y y1) y1]; exact y2) (UN.new (uk75 y y1 y2 y3))
  obtain ⟨c78, hk78, hqa78, hz78⟩ := cx76.after hq77 h78
  show P g X 2 120 [(1, .int w68), (0, .ref a0)] [.ref q77, .ref a0] _ _ (K78, len78, I78, J78, R78)
  refine r_putrF hC 8 (ci := 8) hNm rfl u8_in tyX8_ok nmX8 (by decide) mT_2_86 rfl rfl rfl rfl dX8_init_120 (c78.2.1) rfl rfl (fun R79 eR79 => ?_)
  have u79 := u78.put (Or.inl uq78) (by rw [hk78]; exact Nat.succ_ne_zero _) eR79
  have un79 := un78.put hqa78 eR79
  have uk79 : ∀ y, K y ≠ 0 → K y ≠ 6 → UN R y → UN R79 y := fun y y1 y2 y3 => (uk78 y y1 y2 y3).put (fun z => y1 (by rw [← mo75 y y1, ← z]; exact hq77)) eR79
  have c79 := c78.old (n := len78 q77) (by decide) hk78 rfl (by decide) hqa78 (by simp) eR79
  refine r_aload_n hC dX8_init_123 1 rfl ?_
  obtain ⟨oK80q2, -, oI80q2, oR80q2⟩ := c79.2.2.2.2.2 q2 (by rw [kk76q2]; exact Nat.succ_ne_zero _) hqa3
  have kk80q2 := oK80q2.trans kk76q2
  have ii80q2 := oI80q2.trans ii76q2
  obtain ⟨oK80q7, -, oI80q7, oR80q7⟩ := c79.2.2.2.2.2 q7 (by rw [kk76q7]; exact Nat.succ_ne_zero _) hqa8
  have kk80q7 := oK80q7.trans kk76q7
  have ii80q7 := oI80q7.trans ii76q7
  have rr80q7 := (congrFun oR80q7 0).trans rr76q7
  obtain ⟨oK80tk, -, oI80tk, oR80tk⟩ := c79.2.2.2.2.2 tk (by rw [kk76tk]; exact Nat.succ_ne_zero _) ne_tk
  have kk80tk := oK80tk.trans kk76tk
  have rr80tk := (congrFun oR80tk 0).trans rr76tk
  obtain ⟨oK80q12, -, oI80q12, oR80q12⟩ := c79.2.2.2.2.2 q12 (by rw [kk76q12]; exact Nat.succ_ne_zero _) hqa13
  have kk80q12 := oK80q12.trans kk76q12
  have ii80q12 := oI80q12.trans ii76q12
  have rr80q12 := (congrFun oR80q12 0).trans rr76q12
  obtain ⟨oK80lk13, -, oI80lk13, oR80lk13⟩ := c79.2.2.2.2.2 lk13 (by rw [kk76lk13]; exact Nat.succ_ne_zero _) ne_lk13
  have kk80lk13 := oK80lk13.trans kk76lk13
  have ii80lk13 := oI80lk13.trans ii76lk13
  obtain ⟨oK80q17, -, oI80q17, oR80q17⟩ := c79.2.2.2.2.2 q17 (by rw [kk76q17]; exact Nat.succ_ne_zero _) hqa18
  have kk80q17 := oK80q17.trans kk76q17
  have ii80q17 := oI80q17.trans ii76q17
  have rr80q17 := (congrFun oR80q17 0).trans rr76q17
  obtain ⟨oK80lk18, -, oI80lk18, oR80lk18⟩ := c79.2.2.2.2.2 lk18 (by rw [kk76lk18]; exact Nat.succ_ne_zero _) ne_lk18
  have kk80lk18 := oK80lk18.trans kk76lk18
  have ii80lk18 := oI80lk18.trans ii76lk18
  have cB80 := c79
  have cx80 := c79.rebase
  refine r_new hC (ci := 3) (ty := tyX3) rfl u3_in tyX3_ok df3 mT_2_54 mT_2_55 mT_1_9 rfl (by decide) (by decide) dX8_init_124 (fun q81 hq81 => ?_)
  refine r_dup hC dX8_init_127 rfl ?_
  refine r_callIN hC (As := []) (rest := [.ref q81, .ref a0]) (c_X3_init g (xL X) _ _ _ _ _ (cx80.1.growO hq81 rfl) q81 (va_up_self _ _ _) (by funext j; exact z2_self _ _ _ _) (fun j => z2_self _ _ _ _) (UU.new (kd := 21 + 3) u79 hq81 (by decide)) (UN.fresh u79 hq81)) mT_2_58 mT_1_9 nM_4 mT_2_57 rfl okX3_init ⟨by decide, by decide⟩ rfl rfl (Nat.le_of_ble_eq_true rfl) ⟨by decide, by decide⟩ dX8_init_128 (aV5 (F := fun st M => P g X 2 131 [(1, .int w68), (0, .ref a0)] st _ _ M) fun M82 h82 => ?_)
  obtain ⟨K82, len82, I82, J82, R82⟩ := M82
  obtain ⟨h82, u82, uq82, uy82⟩ := h82
  dsimp only at u82 uq82 uy82
  have mo82 : ∀ y, K y ≠ 0 → K82 y = K y := fun y hy => (made_oldK hq81 h82 y (by rw [mo78 y hy]; exact hy)).trans (mo78 y hy)
  have un82 : UN R82 a0 := uy82 a0 (by rw [cx80.kq hq81]; omega) (by rw [cx80.kq hq81]; omega) (un79.new)
  have uk82 : ∀ y, K y ≠ 0 → K y ≠ 6 → UN R y → UN R82 y := fun y y1 y2 y3 => uy82 y (by rw [kupy hq81 (mo78 y y1) y1]; exact y1) (by rw [kupy hq81 (mo78 y y1) y1]; exact y2) (UN.new (uk79 y y1 y2 y3))
  obtain ⟨c82, hk82, hqa82, hz82⟩ := cx80.after hq81 h82
  show P g X 2 131 [(1, .int w68), (0, .ref a0)] [.ref q81, .ref a0] _ _ (K82, len82, I82, J82, R82)
  refine r_putrF hC 9 (ci := 8) hNm rfl u8_in tyX8_ok nmX8 (by decide) mT_2_87 rfl rfl rfl rfl dX8_init_131 (c82.2.1) rfl rfl (fun R83 eR83 => ?_)
  have u83 := u82.put (Or.inl uq82) (by rw [hk82]; exact Nat.succ_ne_zero _) eR83
  have un83 := un82.put hqa82 eR83
  have uk83 : ∀ y, K y ≠ 0 → K y ≠ 6 → UN R y → UN R83 y := fun y y1 y2 y3 => (uk82 y y1 y2 y3).put (fun z => y1 (by rw [← mo78 y y1, ← z]; exact hq81)) eR83
  have c83 := c82.old (n := len82 q81) (by decide) hk82 rfl (by decide) hqa82 (by simp) eR83
  have z_q81 : I82 q81 = fun _ => 0 := hz82
  obtain ⟨oK84q2, -, oI84q2, oR84q2⟩ := c83.2.2.2.2.2 q2 (by rw [kk80q2]; exact Nat.succ_ne_zero _) hqa3
  have kk84q2 := oK84q2.trans kk80q2
  have ii84q2 := oI84q2.trans ii80q2
  obtain ⟨oK84q7, -, oI84q7, oR84q7⟩ := c83.2.2.2.2.2 q7 (by rw [kk80q7]; exact Nat.succ_ne_zero _) hqa8
  have kk84q7 := oK84q7.trans kk80q7
  have ii84q7 := oI84q7.trans ii80q7
  have rr84q7 := (congrFun oR84q7 0).trans rr80q7
  obtain ⟨oK84tk, -, oI84tk, oR84tk⟩ := c83.2.2.2.2.2 tk (by rw [kk80tk]; exact Nat.succ_ne_zero _) ne_tk
  have kk84tk := oK84tk.trans kk80tk
  have rr84tk := (congrFun oR84tk 0).trans rr80tk
  obtain ⟨oK84q12, -, oI84q12, oR84q12⟩ := c83.2.2.2.2.2 q12 (by rw [kk80q12]; exact Nat.succ_ne_zero _) hqa13
  have kk84q12 := oK84q12.trans kk80q12
  have ii84q12 := oI84q12.trans ii80q12
  have rr84q12 := (congrFun oR84q12 0).trans rr80q12
  obtain ⟨oK84lk13, -, oI84lk13, oR84lk13⟩ := c83.2.2.2.2.2 lk13 (by rw [kk80lk13]; exact Nat.succ_ne_zero _) ne_lk13
  have kk84lk13 := oK84lk13.trans kk80lk13
  have ii84lk13 := oI84lk13.trans ii80lk13
  obtain ⟨oK84q17, -, oI84q17, oR84q17⟩ := c83.2.2.2.2.2 q17 (by rw [kk80q17]; exact Nat.succ_ne_zero _) hqa18
  have kk84q17 := oK84q17.trans kk80q17
  have ii84q17 := oI84q17.trans ii80q17
  have rr84q17 := (congrFun oR84q17 0).trans rr80q17
  obtain ⟨oK84lk18, -, oI84lk18, oR84lk18⟩ := c83.2.2.2.2.2 lk18 (by rw [kk80lk18]; exact Nat.succ_ne_zero _) ne_lk18
  have kk84lk18 := oK84lk18.trans kk80lk18
  have ii84lk18 := oI84lk18.trans ii80lk18
  have cB84 := c83
  have cx84 := c83.rebase
  refine r_aload_n hC dX8_init_134 1 rfl ?_
  refine r_bipush hC (v := (6)) dX8_init_135 (by decide) (by decide) (fun z85 ez85 tz85 => ?_)
  refine r_newarray hC (atype := .int) (ty := .int) (kd := 67) (t := 1) (N := 6) rfl mT_1_152 rfl rfl rfl (by decide) (fun _ h => h) (6, arE 1 (K82, len82, fun _ _ => 0, fun _ _ => 0, fun _ _ => none) 0) rfl (ha_1 6 _ _) (nlt_0 (by omega)) (cl_of (by omega)) (by decide) (by decide) (by decide) dX8_init_137 (fun q86 hq86 => ?_)
  refine r_putrF hC 10 (ci := 8) hNm rfl u8_in tyX8_ok nmX8 (by decide) mT_2_88 rfl rfl rfl rfl dX8_init_139 (cx84.kq hq86) rfl rfl (fun R86 eR86 => ?_)
  have u86 := (UU.new (kd := 67) u83 hq86 (by first | decide | omega)).put (Or.inl (UN.fresh u83 hq86)) (by rw [va_up_self]; first | decide | omega) eR86
  have un86 := (UN.new un83).put (fun z => cx84.ne0 (by rw [← z]; exact hq86)) eR86
  have mo86 : ∀ y, K y ≠ 0 → va_up K82 q86 (67) y = K y := fun y hy => kupy hq86 (mo82 y hy) hy
  have uk86 : ∀ y, K y ≠ 0 → K y ≠ 6 → UN R y → UN R86 y := fun y y1 y2 y3 => (UN.new (uk83 y y1 y2 y3)).put (fun z => y1 (by rw [← mo82 y y1, ← z]; exact hq86)) eR86
  have ar86 : K q86 = 0 := Classical.byContradiction fun z => z (by rw [← mo82 q86 z]; exact hq86)
  have c86 := cx84.row (n := 6) (kd := 67) (k := 10) (by decide) hq86 rfl (by simp) eR86
  generalize va_up K82 q86 (67) = K86 at c86 u86 mo86 ⊢
  generalize va_up len82 q86 6 = len86 at c86 ⊢
  generalize z2 I82 q86 0 = I86 at c86 ⊢
  generalize z2 J82 q86 0 = J86
  refine r_aload_n hC dX8_init_142 1 rfl ?_
  refine r_bipush hC (v := (6)) dX8_init_143 (by decide) (by decide) (fun z87 ez87 tz87 => ?_)
  refine r_newarray hC (atype := .int) (ty := .int) (kd := 68) (t := 1) (N := 6) rfl mT_1_152 rfl rfl rfl (by decide) (fun _ h => h) (6, arE 1 (K86, len86, fun _ _ => 0, fun _ _ => 0, fun _ _ => none) 0) rfl (ha_1 6 _ _) (nlt_0 (by omega)) (cl_of (by omega)) (by decide) (by decide) (by decide) dX8_init_145 (fun q88 hq88 => ?_)
  refine r_putrF hC 11 (ci := 8) hNm rfl u8_in tyX8_ok nmX8 (by decide) mT_2_89 rfl rfl rfl rfl dX8_init_147 (c86.kq hq88) rfl rfl (fun R88 eR88 => ?_)
  have u88 := (UU.new (kd := 68) u86 hq88 (by first | decide | omega)).put (Or.inl (UN.fresh u86 hq88)) (by rw [va_up_self]; first | decide | omega) eR88
  have un88 := (UN.new un86).put (fun z => c86.ne0 (by rw [← z]; exact hq88)) eR88
  have mo88 : ∀ y, K y ≠ 0 → va_up K86 q88 (68) y = K y := fun y hy => kupy hq88 (mo86 y hy) hy
  have uk88 : ∀ y, K y ≠ 0 → K y ≠ 6 → UN R y → UN R88 y := fun y y1 y2 y3 => (UN.new (uk86 y y1 y2 y3)).put (fun z => y1 (by rw [← mo86 y y1, ← z]; exact hq88)) eR88
  have ar88 : K q88 = 0 := Classical.byContradiction fun z => z (by rw [← mo86 q88 z]; exact hq88)
  have c88 := c86.row (n := 6) (kd := 68) (k := 11) (by decide) hq88 rfl (by simp) eR88
  generalize va_up K86 q88 (68) = K88 at c88 u88 mo88 ⊢
  generalize va_up len86 q88 6 = len88 at c88 ⊢
  generalize z2 I86 q88 0 = I88 at c88 ⊢
  generalize z2 J86 q88 0 = J88
  refine r_aload_n hC dX8_init_150 1 rfl ?_
  refine r_iconst hC (v := (0)) dX8_init_151 (by decide) (by decide) (fun z89 ez89 tz89 => ?_)
  refine r_puti hC 12 (ci := 8) rfl u8_in tyX8_ok nmX8 (by decide) mT_2_90 rfl rfl rfl dX8_init_152 c88.2.1 rfl rfl (fun I90 eI90 => ?_)
  rw [ez89] at eI90
  have c90 := c88.num (by decide) eI90
  obtain ⟨oK91q2, -, oI91q2, oR91q2⟩ := c90.2.2.2.2.2 q2 (by rw [kk84q2]; exact Nat.succ_ne_zero _) hqa3
  have kk91q2 := oK91q2.trans kk84q2
  have ii91q2 := oI91q2.trans ii84q2
  obtain ⟨oK91q7, -, oI91q7, oR91q7⟩ := c90.2.2.2.2.2 q7 (by rw [kk84q7]; exact Nat.succ_ne_zero _) hqa8
  have kk91q7 := oK91q7.trans kk84q7
  have ii91q7 := oI91q7.trans ii84q7
  have rr91q7 := (congrFun oR91q7 0).trans rr84q7
  obtain ⟨oK91tk, -, oI91tk, oR91tk⟩ := c90.2.2.2.2.2 tk (by rw [kk84tk]; exact Nat.succ_ne_zero _) ne_tk
  have kk91tk := oK91tk.trans kk84tk
  have rr91tk := (congrFun oR91tk 0).trans rr84tk
  obtain ⟨oK91q12, -, oI91q12, oR91q12⟩ := c90.2.2.2.2.2 q12 (by rw [kk84q12]; exact Nat.succ_ne_zero _) hqa13
  have kk91q12 := oK91q12.trans kk84q12
  have ii91q12 := oI91q12.trans ii84q12
  have rr91q12 := (congrFun oR91q12 0).trans rr84q12
  obtain ⟨oK91lk13, -, oI91lk13, oR91lk13⟩ := c90.2.2.2.2.2 lk13 (by rw [kk84lk13]; exact Nat.succ_ne_zero _) ne_lk13
  have kk91lk13 := oK91lk13.trans kk84lk13
  have ii91lk13 := oI91lk13.trans ii84lk13
  obtain ⟨oK91q17, -, oI91q17, oR91q17⟩ := c90.2.2.2.2.2 q17 (by rw [kk84q17]; exact Nat.succ_ne_zero _) hqa18
  have kk91q17 := oK91q17.trans kk84q17
  have ii91q17 := oI91q17.trans ii84q17
  have rr91q17 := (congrFun oR91q17 0).trans rr84q17
  obtain ⟨oK91lk18, -, oI91lk18, oR91lk18⟩ := c90.2.2.2.2.2 lk18 (by rw [kk84lk18]; exact Nat.succ_ne_zero _) ne_lk18
  have kk91lk18 := oK91lk18.trans kk84lk18
  have ii91lk18 := oI91lk18.trans ii84lk18
  obtain ⟨oK91q81, -, oI91q81, oR91q81⟩ := c90.2.2.2.2.2 q81 (by rw [hk82]; exact Nat.succ_ne_zero _) hqa82
  have kk91q81 := oK91q81.trans hk82
  have ii91q81 := oI91q81.trans z_q81
  have cB91 := c90
  have cx91 := c90.rebase
  refine r_seal (q := a0) (ci := 8) cx91.2.1 rfl rfl ?_
  have md92 := cx91.made (J := J88) (by decide) (by simp [refT]) (rz8) (fun z => absurd z (by decide)) (fun z => absurd z (by decide)) (fun z => absurd z (by decide))
  exact r_vret hC hQ hlk hr (by decide) (by decide) dX8_init_155 ⟨rfl, ⟨(cB1.madeT (cB5.madeT (cB6.madeT (cB10.madeT (cB11.madeT (cB15.madeT (cB16.madeT (cB20.madeT (cB76.madeT (cB80.madeT (cB84.madeT (cB91.madeT md92)))))))))))), q2, q7, tk, q12, lk13, q17, lk18, q81, (cx91.2.2.2.1 (0, q2, 6, len3 q2) (by simp)).1, (cx91.2.2.2.1 (1, q7, 7, len8 q7) (by simp)).1, (cx91.2.2.2.1 (2, q12, 2, len13 q12) (by simp)).1, (cx91.2.2.2.1 (3, q17, 2, len18 q17) (by simp)).1, (cx91.2.2.2.1 (9, q81, 4, len82 q81) (by simp)).1, rr91q7, rr91tk, rr91q12, rr91q17, by show va_up K88 a0 (1 + 8) q2 = _; rw [va_up_ne _ _ hqa3]; exact kk91q2, by show va_up K88 a0 (1 + 8) q7 = _; rw [va_up_ne _ _ hqa8]; exact kk91q7, by show va_up K88 a0 (1 + 8) tk = _; rw [va_up_ne _ _ ne_tk]; exact kk91tk, by show va_up K88 a0 (1 + 8) q12 = _; rw [va_up_ne _ _ hqa13]; exact kk91q12, by show va_up K88 a0 (1 + 8) lk13 = _; rw [va_up_ne _ _ ne_lk13]; exact kk91lk13, by show va_up K88 a0 (1 + 8) q17 = _; rw [va_up_ne _ _ hqa18]; exact kk91q17, by show va_up K88 a0 (1 + 8) lk18 = _; rw [va_up_ne _ _ ne_lk18]; exact kk91lk18, by show va_up K88 a0 (1 + 8) q81 = _; rw [va_up_ne _ _ hqa82]; exact kk91q81, ii91q2, ii91q7, ii91q12, ii91lk13, ii91q81, nehs, nels⟩, UU.seal (v := 1 + 8) u88 (by rw [cx91.2.1]; decide) (by decide), un88, uk88⟩

