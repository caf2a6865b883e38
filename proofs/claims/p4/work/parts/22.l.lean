theorem cl_eq {i j : Int32} (h : i.toInt = j.toInt) : i.toNatClampNeg = j.toNatClampNeg := by rw [Int32.toInt_inj.mp h]
abbrev rmX9_find : Room := { frames := 0, cells := 0, slots := 0, locals := 0 }
abbrev rmX10_byteAt : Room := { frames := 0, cells := 0, slots := 0, locals := 0 }
abbrev rmX10_isLetter : Room := { frames := 0, cells := 0, slots := 0, locals := 0 }
abbrev rmX10_isDigit : Room := { frames := 0, cells := 0, slots := 0, locals := 0 }
abbrev rmX10_goesOn : Room := { frames := 1, cells := 0, slots := 0, locals := 21 }
abbrev rmX10_wrong : Room := { frames := 0, cells := 0, slots := 0, locals := 0 }
abbrev rmX10_wordOf : Room := { frames := 4, cells := 0, slots := 0, locals := 85 }
abbrev rmX10_isWord : Room := { frames := 5, cells := 0, slots := 0, locals := 108 }
abbrev rmX10_isName : Room := { frames := 6, cells := 0, slots := 0, locals := 129 }
abbrev rmX10_readWhole : Room := { frames := 2, cells := 0, slots := 0, locals := 43 }
abbrev rmX10_readPart : Room := { frames := 6, cells := 0, slots := 0, locals := 129 }
abbrev rmX10_begins : Room := { frames := 2, cells := 0, slots := 0, locals := 43 }
abbrev rmX10_readFresh : Room := { frames := 7, cells := 0, slots := 0, locals := 149 }
set_option maxHeartbeats 4000000 in
set_option maxRecDepth 100000 in
theorem c_X9_find (g : GG) (l : Launch) (K len : Nat → Nat) (I : Nat → Nat → Int32) (J : Nat → Nat → Int64) (R : Nat → Nat → Option Nat) (hs : Sf K len I R) (a0 : Nat) (ka0 : K a0 = 10) (y1 : Int64) : Ct g l yX9_find cX9_find 4 (Option.some Jvm.ClassFile.FieldType.int) rmX9_find [.ref a0, .long y1] (K, len, I, J, R) (pI0 (K, len, I, J, R) (fun r => (-1 ≤ r.toInt) ∧ (r.toInt ≤ 18))) := by
  refine Ct_intro (by decide +kernel) (Nat.le_of_ble_eq_true rfl) (fun X hC hL hKK hNm hr hlk hQ => ?_)
  subst hL
  have hC : Cx g X cX9_find "HillTapModel$Hill" 4 rmX9_find := hC
  show P g X 4 0 [(0, .ref a0), (1, .long y1)] [] 0 0 (K, len, I, J, R)
  have hF : Fr K [] I I := Fr.refl
  refine r_iconst hC (v := (0)) dX9_find_0 (by decide) (by decide) (fun x1_ e1 t1 => ?_)
  refine r_istore_n hC (lv' := [(3, .int x1_), (0, .ref a0), (1, .long y1)]) dX9_find_1 (by decide) rfl ?_
  have LP2 : ∀ (mu : Nat) (x2_3 : Int32) (v2_0 : 0 ≤ x2_3.toInt) (v2_1 : x2_3.toInt ≤ 19), (19 - x2_3.toInt).toNat = mu → P g X 4 2 [(0, .ref a0), (1, .long y1), (3, .int x2_3)] [] 0 0 (K, len, I, J, R) := by
    intro mu; induction mu using Nat.strongRecOn with | ind mu ih => ?_
    intro x2_3 v2_0 v2_1 hmu
    have ih2 := ih
    clear ih
    have hmu2 := hmu
    clear hmu
    refine r_iload_n hC dX9_find_2 2 rfl ?_
    refine r_aload_n hC dX9_find_3 0 rfl ?_
    refine r_geti hC 10 (ci := 9) rfl u9_in (by decide) mT_5_103 dX9_find_4 ka0 rfl rfl (fun x3_ e3 => ?_)
    have r3 := hs.rng ka0 rfl e3
    have f3 : x3_.toInt = (I a0 10).toInt := by rw [e3]
    refine r_icmp_ge hC (tgt := 29) dX9_find_7 (by decide) (fun c4 => ?_) (fun c4 => ?_)
    · refine r_iconst hC (v := (-1)) dX9_find_29 (by decide) (by decide) (fun x5_ e5 t5 => ?_)
      exact r_iret hC hQ hlk hr rfl (by decide) (by decide) dX9_find_30 ⟨_, rfl, rfl, ⟨(by omega), (by omega)⟩⟩
    · refine r_aload_n hC dX9_find_10 0 rfl ?_
      obtain ⟨a6_, hb6, hk6, hn6⟩ := hs.row ka0 25 82 19 (by decide) (by decide)
      refine r_getr hC 25 (ci := 9) rfl u9_in (by decide) mT_5_133 dX9_find_11 ka0 rfl rfl hb6 ?_
      refine r_iload_n hC dX9_find_14 2 rfl ?_
      refine x_laload hC hk6 hn6 (by decide) rfl rfl dX9_find_15 (by omega) (by omega) (fun y7_ e7 => ?_)
      refine r_lload_n hC dX9_find_16 1 rfl ?_
      refine r_lcmp hC dX9_find_17 (fun x8_ e8 => ?_)
      refine r_if_ne hC (tgt := 23) dX9_find_18 (by decide) (fun c9 => ?_) (fun c9 => ?_)
      · obtain ⟨x10_, e10⟩ : ∃ z : Int32, z = x2_3 + Int32.ofInt (1) := ⟨_, rfl⟩
        refine r_iinc hC (j := 2) (v := x10_) (lv' := [(3, .int x10_), (0, .ref a0), (1, .long y1)]) dX9_find_23 rfl (by rw [e10]) (by decide) rfl ?_
        try have t10 : x10_.toInt = x2_3.toInt + (1) := by rw [e10]; exact (ti_add (b := Int32.ofInt (1)) (by show _ ≤ _ + (1 : Int); omega) (by show _ + (1 : Int) ≤ _; omega))
        refine r_goto hC (tgt := 2) dX9_find_26 (by decide) ?_
        refine r_sub [1, 2, 0] rfl ?_
        exact ih2 ((19 - x10_.toInt).toNat) (by omega) x10_ (by omega) (by omega) rfl
      · refine r_iload_n hC dX9_find_21 2 rfl ?_
        exact r_iret hC hQ hlk hr rfl (by decide) (by decide) dX9_find_22 ⟨_, rfl, rfl, ⟨(by omega), (by omega)⟩⟩
  refine r_sub [1, 2, 0] rfl ?_
  exact LP2 _ x1_ (by omega) (by omega) rfl
set_option maxHeartbeats 4000000 in
set_option maxRecDepth 100000 in
theorem c_X10_byteAt (g : GG) (l : Launch) (K len : Nat → Nat) (I : Nat → Nat → Int32) (J : Nat → Nat → Int64) (R : Nat → Nat → Option Nat) (hs : Sf K len I R) (a0 : Nat) (ka0 : K a0 = 11) (x1 : Int32) (p0 : 0 ≤ x1.toInt) : Ct g l yX10_byteAt cX10_byteAt 2 (Option.some Jvm.ClassFile.FieldType.int) rmX10_byteAt [.ref a0, .int x1] (K, len, I, J, R) (pI0 (K, len, I, J, R) (fun r => (r.toInt = -1 ∨ x1.toInt < (I a0 7).toInt))) := by
  refine Ct_intro (by decide +kernel) (Nat.le_of_ble_eq_true rfl) (fun X hC hL hKK hNm hr hlk hQ => ?_)
  subst hL
  have hC : Cx g X cX10_byteAt "HillTapModel" 2 rmX10_byteAt := hC
  show P g X 2 0 [(0, .ref a0), (1, .int x1)] [] 0 0 (K, len, I, J, R)
  have hF : Fr K [] I I := Fr.refl
  have b_x1 := ti_rng x1
  refine r_iload_n hC dX10_byteAt_0 1 rfl ?_
  refine r_aload_n hC dX10_byteAt_1 0 rfl ?_
  refine r_geti hC 7 (ci := 10) rfl u10_in (by decide) mT_5_2 dX10_byteAt_2 ka0 rfl rfl (fun x1_ e1 => ?_)
  have r1 := hs.rng ka0 rfl e1
  have f1 : x1_.toInt = (I a0 7).toInt := by rw [e1]
  refine r_icmp_ge hC (tgt := 21) dX10_byteAt_5 (by decide) (fun c2 => ?_) (fun c2 => ?_)
  · refine r_iconst hC (v := (-1)) dX10_byteAt_21 (by decide) (by decide) (fun x3_ e3 t3 => ?_)
    exact r_iret hC hQ hlk hr rfl (by decide) (by decide) dX10_byteAt_22 ⟨_, rfl, rfl, (by omega)⟩
  · refine r_aload_n hC dX10_byteAt_8 0 rfl ?_
    obtain ⟨a4_, hb4, hk4, hn4⟩ := hs.row ka0 5 49 900 (by decide) (by decide)
    refine r_getr hC 5 (ci := 10) rfl u10_in (by decide) mT_5_0 dX10_byteAt_9 ka0 rfl rfl hb4 ?_
    refine r_iload_n hC dX10_byteAt_12 1 rfl ?_
    refine x_baload hC hk4 hn4 (by decide) rfl rfl dX10_byteAt_13 (by omega) (by omega) (fun x5_ e5 => ?_)
    refine r_sipush hC (v := (255)) dX10_byteAt_14 (by decide) (by decide) (fun x6_ e6 t6 => ?_)
    refine r_iand hC dX10_byteAt_17 (fun x7_ e7 => ?_)
    refine r_goto hC (tgt := 22) dX10_byteAt_18 (by decide) ?_
    exact r_iret hC hQ hlk hr rfl (by decide) (by decide) dX10_byteAt_22 ⟨_, rfl, rfl, (by omega)⟩
set_option maxHeartbeats 4000000 in
set_option maxRecDepth 100000 in
theorem c_X10_isLetter (g : GG) (l : Launch) (K len : Nat → Nat) (I : Nat → Nat → Int32) (J : Nat → Nat → Int64) (R : Nat → Nat → Option Nat) (hs : Sf K len I R) (x0 : Int32) : Ct g l yX10_isLetter cX10_isLetter 1 (Option.some Jvm.ClassFile.FieldType.boolean) rmX10_isLetter [.int x0] (K, len, I, J, R) (pI0 (K, len, I, J, R) (fun r => (0 ≤ r.toInt) ∧ (r.toInt ≤ 1) ∧ (r.toInt ≠ 0 → x0.toInt ≠ -1))) := by
  refine Ct_intro (by decide +kernel) (Nat.le_of_ble_eq_true rfl) (fun X hC hL hKK hNm hr hlk hQ => ?_)
  subst hL
  have hC : Cx g X cX10_isLetter "HillTapModel" 1 rmX10_isLetter := hC
  show P g X 1 0 [(0, .int x0)] [] 0 0 (K, len, I, J, R)
  have hF : Fr K [] I I := Fr.refl
  have b_x0 := ti_rng x0
  refine r_iload_n hC dX10_isLetter_0 0 rfl ?_
  refine r_bipush hC (v := (97)) dX10_isLetter_1 (by decide) (by decide) (fun x1_ e1 t1 => ?_)
  refine r_icmp_lt hC (tgt := 16) dX10_isLetter_3 (by decide) (fun c2 => ?_) (fun c2 => ?_)
  · refine r_iconst hC (v := (0)) dX10_isLetter_16 (by decide) (by decide) (fun x3_ e3 t3 => ?_)
    exact r_iret hC hQ hlk hr (by rw [e3]; rfl) (by decide) (by decide) dX10_isLetter_17 ⟨_, rfl, rfl, ⟨(by omega), (by omega), (by omega)⟩⟩
  · refine r_iload_n hC dX10_isLetter_6 0 rfl ?_
    refine r_bipush hC (v := (122)) dX10_isLetter_7 (by decide) (by decide) (fun x4_ e4 t4 => ?_)
    refine r_icmp_gt hC (tgt := 16) dX10_isLetter_9 (by decide) (fun c5 => ?_) (fun c5 => ?_)
    · refine r_iconst hC (v := (0)) dX10_isLetter_16 (by decide) (by decide) (fun x6_ e6 t6 => ?_)
      exact r_iret hC hQ hlk hr (by rw [e6]; rfl) (by decide) (by decide) dX10_isLetter_17 ⟨_, rfl, rfl, ⟨(by omega), (by omega), (by omega)⟩⟩
    · refine r_iconst hC (v := (1)) dX10_isLetter_12 (by decide) (by decide) (fun x7_ e7 t7 => ?_)
      refine r_goto hC (tgt := 17) dX10_isLetter_13 (by decide) ?_
      exact r_iret hC hQ hlk hr (by rw [e7]; rfl) (by decide) (by decide) dX10_isLetter_17 ⟨_, rfl, rfl, ⟨(by omega), (by omega), (by omega)⟩⟩
set_option maxHeartbeats 4000000 in
set_option maxRecDepth 100000 in
theorem c_X10_isDigit (g : GG) (l : Launch) (K len : Nat → Nat) (I : Nat → Nat → Int32) (J : Nat → Nat → Int64) (R : Nat → Nat → Option Nat) (hs : Sf K len I R) (x0 : Int32) : Ct g l yX10_isDigit cX10_isDigit 1 (Option.some Jvm.ClassFile.FieldType.boolean) rmX10_isDigit [.int x0] (K, len, I, J, R) (pI0 (K, len, I, J, R) (fun r => (0 ≤ r.toInt) ∧ (r.toInt ≤ 1) ∧ (r.toInt ≠ 0 → x0.toInt ≠ -1))) := by
  refine Ct_intro (by decide +kernel) (Nat.le_of_ble_eq_true rfl) (fun X hC hL hKK hNm hr hlk hQ => ?_)
  subst hL
  have hC : Cx g X cX10_isDigit "HillTapModel" 1 rmX10_isDigit := hC
  show P g X 1 0 [(0, .int x0)] [] 0 0 (K, len, I, J, R)
  have hF : Fr K [] I I := Fr.refl
  have b_x0 := ti_rng x0
  refine r_iload_n hC dX10_isDigit_0 0 rfl ?_
  refine r_bipush hC (v := (48)) dX10_isDigit_1 (by decide) (by decide) (fun x1_ e1 t1 => ?_)
  refine r_icmp_lt hC (tgt := 16) dX10_isDigit_3 (by decide) (fun c2 => ?_) (fun c2 => ?_)
  · refine r_iconst hC (v := (0)) dX10_isDigit_16 (by decide) (by decide) (fun x3_ e3 t3 => ?_)
    exact r_iret hC hQ hlk hr (by rw [e3]; rfl) (by decide) (by decide) dX10_isDigit_17 ⟨_, rfl, rfl, ⟨(by omega), (by omega), (by omega)⟩⟩
  · refine r_iload_n hC dX10_isDigit_6 0 rfl ?_
    refine r_bipush hC (v := (57)) dX10_isDigit_7 (by decide) (by decide) (fun x4_ e4 t4 => ?_)
    refine r_icmp_gt hC (tgt := 16) dX10_isDigit_9 (by decide) (fun c5 => ?_) (fun c5 => ?_)
    · refine r_iconst hC (v := (0)) dX10_isDigit_16 (by decide) (by decide) (fun x6_ e6 t6 => ?_)
      exact r_iret hC hQ hlk hr (by rw [e6]; rfl) (by decide) (by decide) dX10_isDigit_17 ⟨_, rfl, rfl, ⟨(by omega), (by omega), (by omega)⟩⟩
    · refine r_iconst hC (v := (1)) dX10_isDigit_12 (by decide) (by decide) (fun x7_ e7 t7 => ?_)
      refine r_goto hC (tgt := 17) dX10_isDigit_13 (by decide) ?_
      exact r_iret hC hQ hlk hr (by rw [e7]; rfl) (by decide) (by decide) dX10_isDigit_17 ⟨_, rfl, rfl, ⟨(by omega), (by omega), (by omega)⟩⟩
set_option maxHeartbeats 4000000 in
set_option maxRecDepth 100000 in
theorem c_X10_goesOn (g : GG) (l : Launch) (K len : Nat → Nat) (I : Nat → Nat → Int32) (J : Nat → Nat → Int64) (R : Nat → Nat → Option Nat) (hs : Sf K len I R) (a0 : Nat) (ka0 : K a0 = 11) : Ct g l yX10_goesOn cX10_goesOn 3 (Option.none : Option Jvm.ClassFile.FieldType) rmX10_goesOn [.ref a0] (K, len, I, J, R) (pV2 (K, len, I, J, R) (fun I' J' => Sf K len I' R ∧ Fr K [(11, 8), (11, 9), (11, 10), (11, 11)] I I' ∧ Fr K [(11, 14)] J J' ∧ ((I a0 9).toInt = 5 → (I' a0 9).toInt = 5) ∧ ((I a0 9).toInt ≠ 5 → (I' a0 9).toInt ≠ 5) ∧ ((I a0 8).toInt ≤ (I' a0 8).toInt) ∧ ((I a0 9).toInt ≠ 5 → (I' a0 9).toInt = 4 → (I a0 8).toInt < (I' a0 8).toInt))) := by
  refine Ct_intro (by decide +kernel) (Nat.le_of_ble_eq_true rfl) (fun X hC hL hKK hNm hr hlk hQ => ?_)
  subst hL
  have hC : Cx g X cX10_goesOn "HillTapModel" 3 rmX10_goesOn := hC
  show P g X 3 0 [(0, .ref a0)] [] 0 0 (K, len, I, J, R)
  have hF : Fr K [(11, 8), (11, 9), (11, 10), (11, 11)] I I := Fr.refl
  have hFJ : Fr K [(11, 14)] J J := Fr.refl
  obtain ⟨A0, eA0⟩ : ∃ z : Int32, z = I a0 8 := ⟨_, rfl⟩
  have fA0 : A0.toInt = (I a0 8).toInt := by rw [eA0]
  have rA0 := hs.rng ka0 rfl eA0
  obtain ⟨T0, eT0⟩ : ∃ z : Int32, z = I a0 9 := ⟨_, rfl⟩
  have fT0 : T0.toInt = (I a0 9).toInt := by rw [eT0]
  refine r_aload_n hC dX10_goesOn_0 0 rfl ?_
  refine r_geti hC 9 (ci := 10) rfl u10_in (by decide) mT_5_4 dX10_goesOn_1 ka0 rfl rfl (fun x1_ e1 => ?_)
  have f1 : x1_.toInt = (I a0 9).toInt := by rw [e1]
  have w1 : x1_ = T0 := by rw [e1]; exact eT0.symm
  have wt1 : x1_.toInt = T0.toInt := by rw [w1]
  refine r_iconst hC (v := (5)) dX10_goesOn_4 (by decide) (by decide) (fun x2_ e2 t2 => ?_)
  refine r_icmp_ne hC (tgt := 9) dX10_goesOn_5 (by decide) (fun c3 => ?_) (fun c3 => ?_)
  · have LP4 : ∀ (mu : Nat)  (I4 : Nat → Nat → Int32) (hs4 : Sf K len I4 R) (hF4 : Fr K [(11, 8), (11, 9), (11, 10), (11, 11)] I I4) (v4_0 : A0.toInt ≤ (I4 a0 8).toInt), (900 - (I4 a0 8).toInt).toNat = mu → P g X 3 9 [(0, .ref a0)] [] 0 0 (K, len, I4, J, R) := by
      intro mu; induction mu using Nat.strongRecOn with | ind mu ih => ?_
      intro  I4 hs4 hF4 v4_0 hmu
      have ih4 := ih
      clear ih
      have hmu4 := hmu
      clear hmu
      refine r_aload_n hC dX10_goesOn_9 0 rfl ?_
      refine r_aload_n hC dX10_goesOn_10 0 rfl ?_
      refine r_geti hC 8 (ci := 10) rfl u10_in (by decide) mT_5_3 dX10_goesOn_11 ka0 rfl rfl (fun x5_ e5 => ?_)
      have r5 := hs4.rng ka0 rfl e5
      have f5 : x5_.toInt = (I4 a0 8).toInt := by rw [e5]
      have hsz14 := hs4.rng ka0 (k := 7) rfl (x := I4 a0 7) rfl
      refine r_callV hC (As := [.int x5_]) (rest := []) (ci := 10) (c_X10_byteAt g (xL X) K len I4 J R hs4 a0 ka0 x5_ (by omega)) mT_5_203 mT_1_10 mT_5_200 mT_5_202 mP_50 okX10_byteAt ⟨by decide, by decide⟩ rfl (by show kO (K a0) = _; rw [ka0]; rfl) rfl rfl (Nat.le_of_ble_eq_true rfl) ⟨by decide, by decide⟩ dX10_goesOn_14 (aI0 (F := fun st M => P g X 3 17 [(0, .ref a0)] st _ _ M) (M := (K, len, I4, J, R)) fun x6_ h6 => ?_)
      have k6_0 := h6
      show P g X 3 17 [(0, .ref a0)] [.int x6_] _ _ (K, len, I4, J, R)
      refine r_bipush hC (v := (32)) dX10_goesOn_17 (by decide) (by decide) (fun x7_ e7 t7 => ?_)
      refine r_icmp_ne hC (tgt := 35) dX10_goesOn_19 (by decide) (fun c8 => ?_) (fun c8 => ?_)
      · refine r_aload_n hC dX10_goesOn_35 0 rfl ?_
        refine r_aload_n hC dX10_goesOn_36 0 rfl ?_
        refine r_geti hC 8 (ci := 10) rfl u10_in (by decide) mT_5_3 dX10_goesOn_37 ka0 rfl rfl (fun x9_ e9 => ?_)
        have r9 := hs4.rng ka0 rfl e9
        have f9 : x9_.toInt = (I4 a0 8).toInt := by rw [e9]
        have w9 : x9_ = x5_ := by rw [e9]; exact e5.symm
        have wt9 : x9_.toInt = x5_.toInt := by rw [w9]
        refine r_puti hC 10 (ci := 10) rfl u10_in tyX10_ok nmX10 (by decide) mT_5_5 rfl rfl rfl dX10_goesOn_40 ka0 rfl rfl (fun I10 eI10 => ?_)
        have hs10 := hs4.put0 eI10 ka0 rfl rfl rfl (by decide)
        have hF10 := hF4.put eI10 ka0 rfl
        refine r_aload_n hC dX10_goesOn_43 0 rfl ?_
        refine r_iconst hC (v := (0)) dX10_goesOn_44 (by decide) (by decide) (fun x11_ e11 t11 => ?_)
        refine r_puti hC 9 (ci := 10) rfl u10_in tyX10_ok nmX10 (by decide) mT_5_4 rfl rfl rfl dX10_goesOn_45 ka0 rfl rfl (fun I12 eI12 => ?_)
        have hs12 := hs10.put0 eI12 ka0 rfl rfl rfl (by decide)
        have hF12 := hF10.put eI12 ka0 rfl
        refine r_aload_n hC dX10_goesOn_48 0 rfl ?_
        refine r_aload_n hC dX10_goesOn_49 0 rfl ?_
        refine r_geti hC 8 (ci := 10) rfl u10_in (by decide) mT_5_3 dX10_goesOn_50 ka0 rfl rfl (fun x13_ e13 => ?_)
        have r13 := hs12.rng ka0 rfl e13
        have f13 : x13_.toInt = (I12 a0 8).toInt := by rw [e13]
        have w13 : x13_ = x9_ := by rw [e13]; exact (Eq.trans (up2_at (Or.inr (by decide)) eI12) (Eq.trans (up2_at (Or.inr (by decide)) eI10) e9.symm))
        have wt13 : x13_.toInt = x9_.toInt := by rw [w13]
        have hsz53 := hs12.rng ka0 (k := 7) rfl (x := I12 a0 7) rfl
        refine r_callV hC (As := [.int x13_]) (rest := []) (ci := 10) (c_X10_byteAt g (xL X) K len I12 J R hs12 a0 ka0 x13_ (by omega)) mT_5_203 mT_1_10 mT_5_200 mT_5_202 mP_50 okX10_byteAt ⟨by decide, by decide⟩ rfl (by show kO (K a0) = _; rw [ka0]; rfl) rfl rfl (Nat.le_of_ble_eq_true rfl) ⟨by decide, by decide⟩ dX10_goesOn_53 (aI0 (F := fun st M => P g X 3 56 [(0, .ref a0)] st _ _ M) (M := (K, len, I12, J, R)) fun x14_ h14 => ?_)
        have k14_0 := h14
        show P g X 3 56 [(0, .ref a0)] [.int x14_] _ _ (K, len, I12, J, R)
        refine r_istore_n hC (lv' := [(1, .int x14_), (0, .ref a0)]) dX10_goesOn_56 (by decide) rfl ?_
        refine r_iconst hC (v := (0)) dX10_goesOn_57 (by decide) (by decide) (fun x15_ e15 t15 => ?_)
        refine r_istore_n hC (lv' := [(2, .int x15_), (1, .int x14_), (0, .ref a0)]) dX10_goesOn_58 (by decide) rfl ?_
        refine r_iload_n hC dX10_goesOn_59 1 rfl ?_
        refine r_iconst hC (v := (-1)) dX10_goesOn_60 (by decide) (by decide) (fun x16_ e16 t16 => ?_)
        refine r_icmp_ne hC (tgt := 72) dX10_goesOn_61 (by decide) (fun c17 => ?_) (fun c17 => ?_)
        · refine r_iload_n hC dX10_goesOn_72 1 rfl ?_
          refine r_callS hC (As := [.int x14_]) (rest := []) (c_X10_isLetter g (xL X) K len I12 J R hs12 x14_) mT_5_206 mT_1_10 mT_5_204 mT_5_205 okX10_isLetter ⟨by decide, by decide⟩ rfl rfl (Nat.le_of_ble_eq_true rfl) ⟨by decide, by decide⟩ dX10_goesOn_73 (aI0 (F := fun st M => P g X 3 76 [(2, .int x15_), (1, .int x14_), (0, .ref a0)] st _ _ M) (M := (K, len, I12, J, R)) fun x18_ h18 => ?_)
          obtain ⟨k18_0, k18_1, k18_2⟩ := h18
          show P g X 3 76 [(2, .int x15_), (1, .int x14_), (0, .ref a0)] [.int x18_] _ _ (K, len, I12, J, R)
          refine r_if_eq hC (tgt := 161) dX10_goesOn_76 (by decide) (fun c19 => ?_) (fun c19 => ?_)
          · refine r_iload_n hC dX10_goesOn_161 1 rfl ?_
            refine r_callS hC (As := [.int x14_]) (rest := []) (c_X10_isDigit g (xL X) K len I12 J R hs12 x14_) mT_5_210 mT_1_10 mT_5_208 mT_5_209 okX10_isDigit ⟨by decide, by decide⟩ rfl rfl (Nat.le_of_ble_eq_true rfl) ⟨by decide, by decide⟩ dX10_goesOn_162 (aI0 (F := fun st M => P g X 3 165 [(2, .int x15_), (1, .int x14_), (0, .ref a0)] st _ _ M) (M := (K, len, I12, J, R)) fun x20_ h20 => ?_)
            obtain ⟨k20_0, k20_1, k20_2⟩ := h20
            show P g X 3 165 [(2, .int x15_), (1, .int x14_), (0, .ref a0)] [.int x20_] _ _ (K, len, I12, J, R)
            refine r_if_eq hC (tgt := 244) dX10_goesOn_165 (by decide) (fun c21 => ?_) (fun c21 => ?_)
            · refine r_iload_n hC dX10_goesOn_244 1 rfl ?_
              refine r_bipush hC (v := (59)) dX10_goesOn_245 (by decide) (by decide) (fun x22_ e22 t22 => ?_)
              refine r_icmp_ne hC (tgt := 265) dX10_goesOn_247 (by decide) (fun c23 => ?_) (fun c23 => ?_)
              · have hv8 : I12 a0 8 = x13_ := e13.symm
                have hv8t : (I12 a0 8).toInt = x13_.toInt := congrArg Int32.toInt hv8
                have hv9 : I12 a0 9 = x11_ := (by rw [eI12]; exact up2_self _ _ _ _)
                have hv9t : (I12 a0 9).toInt = x11_.toInt := congrArg Int32.toInt hv9
                exact r_vret hC hQ hlk hr (by decide) (by decide) dX10_goesOn_265 ⟨_, _, rfl, rfl, ⟨hs12, hF12, hFJ, (by omega), (by omega), (by omega), (by omega)⟩⟩
              · refine r_aload_n hC dX10_goesOn_250 2 rfl ?_
                refine r_iconst hC (v := (4)) dX10_goesOn_251 (by decide) (by decide) (fun x24_ e24 t24 => ?_)
                refine r_puti hC 9 (ci := 10) rfl u10_in tyX10_ok nmX10 (by decide) mT_5_4 rfl rfl rfl dX10_goesOn_252 ka0 rfl rfl (fun I25 eI25 => ?_)
                have hs25 := hs12.put0 eI25 ka0 rfl rfl rfl (by decide)
                have hF25 := hF12.put eI25 ka0 rfl
                refine r_aload_n hC dX10_goesOn_255 2 rfl ?_
                refine r_dup hC dX10_goesOn_256 rfl ?_
                refine r_geti hC 8 (ci := 10) rfl u10_in (by decide) mT_5_3 dX10_goesOn_257 ka0 rfl rfl (fun x26_ e26 => ?_)
                have r26 := hs25.rng ka0 rfl e26
                have f26 : x26_.toInt = (I25 a0 8).toInt := by rw [e26]
                have w26 : x26_ = x13_ := by rw [e26]; exact (Eq.trans (up2_at (Or.inr (by decide)) eI25) e13.symm)
                have wt26 : x26_.toInt = x13_.toInt := by rw [w26]
                refine r_iconst hC (v := (1)) dX10_goesOn_260 (by decide) (by decide) (fun x27_ e27 t27 => ?_)
                refine r_iadd hC dX10_goesOn_261 (fun x28_ e28 => ?_)
                try have t28 : x28_.toInt = x26_.toInt + x27_.toInt := by rw [e28]; exact ti_add (by omega) (by omega)
                refine r_puti hC 8 (ci := 10) rfl u10_in tyX10_ok nmX10 (by decide) mT_5_3 rfl rfl rfl dX10_goesOn_262 ka0 rfl rfl (fun I29 eI29 => ?_)
                have hs29 := hs25.put1 eI29 ka0 rfl (by omega) (by omega) rfl rfl (by decide)
                have hF29 := hF25.put eI29 ka0 rfl
                have hv8 : I29 a0 8 = x28_ := (by rw [eI29]; exact up2_self _ _ _ _)
                have hv8t : (I29 a0 8).toInt = x28_.toInt := congrArg Int32.toInt hv8
                have hv9 : I29 a0 9 = x24_ := (Eq.trans (up2_at (Or.inr (by decide)) eI29) (by rw [eI25]; exact up2_self _ _ _ _))
                have hv9t : (I29 a0 9).toInt = x24_.toInt := congrArg Int32.toInt hv9
                exact r_vret hC hQ hlk hr (by decide) (by decide) dX10_goesOn_265 ⟨_, _, rfl, rfl, ⟨hs29, hF29, hFJ, (by omega), (by omega), (by omega), (by omega)⟩⟩
            · refine r_aload_n hC dX10_goesOn_168 2 rfl ?_
              refine r_iconst hC (v := (0)) dX10_goesOn_169 (by decide) (by decide) (fun x30_ e30 t30 => ?_)
              refine r_puti hC 11 (ci := 10) rfl u10_in tyX10_ok nmX10 (by decide) mT_5_6 rfl rfl rfl dX10_goesOn_170 ka0 rfl rfl (fun I31 eI31 => ?_)
              have hs31 := hs12.put0 eI31 ka0 rfl rfl rfl (by decide)
              have hF31 := hF12.put eI31 ka0 rfl
              have LP32 : ∀ (mu : Nat) (x32_2 : Int32) (I32 : Nat → Nat → Int32) (hs32 : Sf K len I32 R) (hF32 : Fr K [(11, 8), (11, 9), (11, 10), (11, 11)] I I32) (v32_0 : A0.toInt ≤ (I32 a0 8).toInt) (v32_1 : (I32 a0 9).toInt = 0), (900 - (I32 a0 8).toInt).toNat = mu → P g X 3 173 [(0, .ref a0), (1, .int x14_), (2, .int x32_2)] [] 0 0 (K, len, I32, J, R) := by
                intro mu; induction mu using Nat.strongRecOn with | ind mu ih => ?_
                intro x32_2 I32 hs32 hF32 v32_0 v32_1 hmu
                have ih32 := ih
                clear ih
                have hmu32 := hmu
                clear hmu
                obtain ⟨Th32, eTh32⟩ : ∃ z : Int32, z = I32 a0 9 := ⟨_, rfl⟩
                have fTh32 : Th32.toInt = (I32 a0 9).toInt := by rw [eTh32]
                refine r_aload_n hC dX10_goesOn_173 0 rfl ?_
                refine r_aload_n hC dX10_goesOn_174 0 rfl ?_
                refine r_geti hC 8 (ci := 10) rfl u10_in (by decide) mT_5_3 dX10_goesOn_175 ka0 rfl rfl (fun x33_ e33 => ?_)
                have r33 := hs32.rng ka0 rfl e33
                have f33 : x33_.toInt = (I32 a0 8).toInt := by rw [e33]
                have hsz178 := hs32.rng ka0 (k := 7) rfl (x := I32 a0 7) rfl
                refine r_callV hC (As := [.int x33_]) (rest := []) (ci := 10) (c_X10_byteAt g (xL X) K len I32 J R hs32 a0 ka0 x33_ (by omega)) mT_5_203 mT_1_10 mT_5_200 mT_5_202 mP_50 okX10_byteAt ⟨by decide, by decide⟩ rfl (by show kO (K a0) = _; rw [ka0]; rfl) rfl rfl (Nat.le_of_ble_eq_true rfl) ⟨by decide, by decide⟩ dX10_goesOn_178 (aI0 (F := fun st M => P g X 3 181 [(0, .ref a0), (1, .int x14_), (2, .int x32_2)] st _ _ M) (M := (K, len, I32, J, R)) fun x34_ h34 => ?_)
                have k34_0 := h34
                show P g X 3 181 [(0, .ref a0), (1, .int x14_), (2, .int x32_2)] [.int x34_] _ _ (K, len, I32, J, R)
                refine r_callS hC (As := [.int x34_]) (rest := []) (c_X10_isDigit g (xL X) K len I32 J R hs32 x34_) mT_5_210 mT_1_10 mT_5_208 mT_5_209 okX10_isDigit ⟨by decide, by decide⟩ rfl rfl (Nat.le_of_ble_eq_true rfl) ⟨by decide, by decide⟩ dX10_goesOn_181 (aI0 (F := fun st M => P g X 3 184 [(0, .ref a0), (1, .int x14_), (2, .int x32_2)] st _ _ M) (M := (K, len, I32, J, R)) fun x35_ h35 => ?_)
                obtain ⟨k35_0, k35_1, k35_2⟩ := h35
                show P g X 3 184 [(0, .ref a0), (1, .int x14_), (2, .int x32_2)] [.int x35_] _ _ (K, len, I32, J, R)
                refine r_if_eq hC (tgt := 231) dX10_goesOn_184 (by decide) (fun c36 => ?_) (fun c36 => ?_)
                · refine r_iload_n hC dX10_goesOn_231 2 rfl ?_
                  refine r_iconst hC (v := (3)) dX10_goesOn_232 (by decide) (by decide) (fun x37_ e37 t37 => ?_)
                  refine r_icmp_gt hC (tgt := 265) dX10_goesOn_233 (by decide) (fun c38 => ?_) (fun c38 => ?_)
                  · have hv8 : I32 a0 8 = x33_ := e33.symm
                    have hv8t : (I32 a0 8).toInt = x33_.toInt := congrArg Int32.toInt hv8
                    have hv9 : I32 a0 9 = Th32 := eTh32.symm
                    have hv9t : (I32 a0 9).toInt = Th32.toInt := congrArg Int32.toInt hv9
                    exact r_vret hC hQ hlk hr (by decide) (by decide) dX10_goesOn_265 ⟨_, _, rfl, rfl, ⟨hs32, hF32, hFJ, (by omega), (by omega), (by omega), (by omega)⟩⟩
                  · refine r_aload_n hC dX10_goesOn_236 0 rfl ?_
                    refine r_iconst hC (v := (3)) dX10_goesOn_237 (by decide) (by decide) (fun x39_ e39 t39 => ?_)
                    refine r_puti hC 9 (ci := 10) rfl u10_in tyX10_ok nmX10 (by decide) mT_5_4 rfl rfl rfl dX10_goesOn_238 ka0 rfl rfl (fun I40 eI40 => ?_)
                    have hs40 := hs32.put0 eI40 ka0 rfl rfl rfl (by decide)
                    have hF40 := hF32.put eI40 ka0 rfl
                    refine r_goto hC (tgt := 265) dX10_goesOn_241 (by decide) ?_
                    have hv8 : I40 a0 8 = x33_ := (Eq.trans (up2_at (Or.inr (by decide)) eI40) e33.symm)
                    have hv8t : (I40 a0 8).toInt = x33_.toInt := congrArg Int32.toInt hv8
                    have hv9 : I40 a0 9 = x39_ := (by rw [eI40]; exact up2_self _ _ _ _)
                    have hv9t : (I40 a0 9).toInt = x39_.toInt := congrArg Int32.toInt hv9
                    exact r_vret hC hQ hlk hr (by decide) (by decide) dX10_goesOn_265 ⟨_, _, rfl, rfl, ⟨hs40, hF40, hFJ, (by omega), (by omega), (by omega), (by omega)⟩⟩
                · refine r_iload_n hC dX10_goesOn_187 2 rfl ?_
                  refine r_iconst hC (v := (3)) dX10_goesOn_188 (by decide) (by decide) (fun x41_ e41 t41 => ?_)
                  refine r_icmp_ge hC (tgt := 215) dX10_goesOn_189 (by decide) (fun c42 => ?_) (fun c42 => ?_)
                  · obtain ⟨x43_, e43⟩ : ∃ z : Int32, z = x32_2 + Int32.ofInt (1) := ⟨_, rfl⟩
                    refine r_iinc hC (j := 2) (v := x43_) (lv' := [(2, .int x43_), (0, .ref a0), (1, .int x14_)]) dX10_goesOn_215 rfl (by rw [e43]) (by decide) rfl ?_
                    try have t43 : x43_.toInt = x32_2.toInt + (1) := by rw [e43]; exact (ti_add (b := Int32.ofInt (1)) (by show _ ≤ _ + (1 : Int); omega) (by show _ + (1 : Int) ≤ _; omega))
                    refine r_aload_n hC dX10_goesOn_218 1 rfl ?_
                    refine r_dup hC dX10_goesOn_219 rfl ?_
                    refine r_geti hC 8 (ci := 10) rfl u10_in (by decide) mT_5_3 dX10_goesOn_220 ka0 rfl rfl (fun x44_ e44 => ?_)
                    have r44 := hs32.rng ka0 rfl e44
                    have f44 : x44_.toInt = (I32 a0 8).toInt := by rw [e44]
                    have w44 : x44_ = x33_ := by rw [e44]; exact e33.symm
                    have wt44 : x44_.toInt = x33_.toInt := by rw [w44]
                    refine r_iconst hC (v := (1)) dX10_goesOn_223 (by decide) (by decide) (fun x45_ e45 t45 => ?_)
                    refine r_iadd hC dX10_goesOn_224 (fun x46_ e46 => ?_)
                    try have t46 : x46_.toInt = x44_.toInt + x45_.toInt := by rw [e46]; exact ti_add (by omega) (by omega)
                    refine r_puti hC 8 (ci := 10) rfl u10_in tyX10_ok nmX10 (by decide) mT_5_3 rfl rfl rfl dX10_goesOn_225 ka0 rfl rfl (fun I47 eI47 => ?_)
                    have hs47 := hs32.put1 eI47 ka0 rfl (by omega) (by omega) rfl rfl (by decide)
                    have hF47 := hF32.put eI47 ka0 rfl
                    refine r_goto hC (tgt := 173) dX10_goesOn_228 (by decide) ?_
                    have hv8 : I47 a0 8 = x46_ := (by rw [eI47]; exact up2_self _ _ _ _)
                    have hv8t : (I47 a0 8).toInt = x46_.toInt := congrArg Int32.toInt hv8
                    have hv9 : I47 a0 9 = Th32 := (Eq.trans (up2_at (Or.inr (by decide)) eI47) eTh32.symm)
                    have hv9t : (I47 a0 9).toInt = Th32.toInt := congrArg Int32.toInt hv9
                    refine r_sub [1, 2, 0] rfl ?_
                    exact ih32 ((900 - (I47 a0 8).toInt).toNat) (by omega) x43_ I47 hs47 hF47 (by omega) (by omega) rfl
                  · refine r_aload_n hC dX10_goesOn_192 0 rfl ?_
                    refine r_bipush hC (v := (10)) dX10_goesOn_193 (by decide) (by decide) (fun x48_ e48 t48 => ?_)
                    refine r_aload_n hC dX10_goesOn_195 0 rfl ?_
                    refine r_geti hC 11 (ci := 10) rfl u10_in (by decide) mT_5_6 dX10_goesOn_196 ka0 rfl rfl (fun x49_ e49 => ?_)
                    have f49 : x49_.toInt = (I32 a0 11).toInt := by rw [e49]
                    refine r_imul hC dX10_goesOn_199 (fun x50_ e50 => ?_)
                    try have t50 : x50_.toInt = (10) * x49_.toInt := by rw [e50]; exact ti_mul (by omega) rfl (by omega) (by omega)
                    refine r_aload_n hC dX10_goesOn_200 0 rfl ?_
                    refine r_aload_n hC dX10_goesOn_201 0 rfl ?_
                    refine r_geti hC 8 (ci := 10) rfl u10_in (by decide) mT_5_3 dX10_goesOn_202 ka0 rfl rfl (fun x51_ e51 => ?_)
                    have r51 := hs32.rng ka0 rfl e51
                    have f51 : x51_.toInt = (I32 a0 8).toInt := by rw [e51]
                    have w51 : x51_ = x33_ := by rw [e51]; exact e33.symm
                    have wt51 : x51_.toInt = x33_.toInt := by rw [w51]
                    have hsz205 := hs32.rng ka0 (k := 7) rfl (x := I32 a0 7) rfl
                    refine r_callV hC (As := [.int x51_]) (rest := [.int x50_, .ref a0]) (ci := 10) (c_X10_byteAt g (xL X) K len I32 J R hs32 a0 ka0 x51_ (by omega)) mT_5_203 mT_1_10 mT_5_200 mT_5_202 mP_50 okX10_byteAt ⟨by decide, by decide⟩ rfl (by show kO (K a0) = _; rw [ka0]; rfl) rfl rfl (Nat.le_of_ble_eq_true rfl) ⟨by decide, by decide⟩ dX10_goesOn_205 (aI0 (F := fun st M => P g X 3 208 [(0, .ref a0), (1, .int x14_), (2, .int x32_2)] st _ _ M) (M := (K, len, I32, J, R)) fun x52_ h52 => ?_)
                    have k52_0 := h52
                    show P g X 3 208 [(0, .ref a0), (1, .int x14_), (2, .int x32_2)] [.int x52_, .int x50_, .ref a0] _ _ (K, len, I32, J, R)
                    refine r_iadd hC dX10_goesOn_208 (fun x53_ e53 => ?_)
                    try have t53 : x53_.toInt = x50_.toInt + x52_.toInt := by rw [e53]; exact ti_add (by omega) (by omega)
                    refine r_bipush hC (v := (48)) dX10_goesOn_209 (by decide) (by decide) (fun x54_ e54 t54 => ?_)
                    refine r_isub hC dX10_goesOn_211 (fun x55_ e55 => ?_)
                    try have t55 : x55_.toInt = x53_.toInt - x54_.toInt := by rw [e55]; exact ti_sub (by omega) (by omega)
                    refine r_puti hC 11 (ci := 10) rfl u10_in tyX10_ok nmX10 (by decide) mT_5_6 rfl rfl rfl dX10_goesOn_212 ka0 rfl rfl (fun I56 eI56 => ?_)
                    have hs56 := hs32.put0 eI56 ka0 rfl rfl rfl (by decide)
                    have hF56 := hF32.put eI56 ka0 rfl
                    obtain ⟨x57_, e57⟩ : ∃ z : Int32, z = x32_2 + Int32.ofInt (1) := ⟨_, rfl⟩
                    refine r_iinc hC (j := 2) (v := x57_) (lv' := [(2, .int x57_), (0, .ref a0), (1, .int x14_)]) dX10_goesOn_215 rfl (by rw [e57]) (by decide) rfl ?_
                    try have t57 : x57_.toInt = x32_2.toInt + (1) := by rw [e57]; exact (ti_add (b := Int32.ofInt (1)) (by show _ ≤ _ + (1 : Int); omega) (by show _ + (1 : Int) ≤ _; omega))
                    refine r_aload_n hC dX10_goesOn_218 1 rfl ?_
                    refine r_dup hC dX10_goesOn_219 rfl ?_
                    refine r_geti hC 8 (ci := 10) rfl u10_in (by decide) mT_5_3 dX10_goesOn_220 ka0 rfl rfl (fun x58_ e58 => ?_)
                    have r58 := hs56.rng ka0 rfl e58
                    have f58 : x58_.toInt = (I56 a0 8).toInt := by rw [e58]
                    have w58 : x58_ = x51_ := by rw [e58]; exact (Eq.trans (up2_at (Or.inr (by decide)) eI56) e51.symm)
                    have wt58 : x58_.toInt = x51_.toInt := by rw [w58]
                    refine r_iconst hC (v := (1)) dX10_goesOn_223 (by decide) (by decide) (fun x59_ e59 t59 => ?_)
                    refine r_iadd hC dX10_goesOn_224 (fun x60_ e60 => ?_)
                    try have t60 : x60_.toInt = x58_.toInt + x59_.toInt := by rw [e60]; exact ti_add (by omega) (by omega)
                    refine r_puti hC 8 (ci := 10) rfl u10_in tyX10_ok nmX10 (by decide) mT_5_3 rfl rfl rfl dX10_goesOn_225 ka0 rfl rfl (fun I61 eI61 => ?_)
                    have hs61 := hs56.put1 eI61 ka0 rfl (by omega) (by omega) rfl rfl (by decide)
                    have hF61 := hF56.put eI61 ka0 rfl
                    refine r_goto hC (tgt := 173) dX10_goesOn_228 (by decide) ?_
                    have hv8 : I61 a0 8 = x60_ := (by rw [eI61]; exact up2_self _ _ _ _)
                    have hv8t : (I61 a0 8).toInt = x60_.toInt := congrArg Int32.toInt hv8
                    have hv9 : I61 a0 9 = Th32 := (Eq.trans (up2_at (Or.inr (by decide)) eI61) (Eq.trans (up2_at (Or.inr (by decide)) eI56) eTh32.symm))
                    have hv9t : (I61 a0 9).toInt = Th32.toInt := congrArg Int32.toInt hv9
                    refine r_sub [1, 2, 0] rfl ?_
                    exact ih32 ((900 - (I61 a0 8).toInt).toNat) (by omega) x57_ I61 hs61 hF61 (by omega) (by omega) rfl
              have hv8 : I31 a0 8 = x13_ := (Eq.trans (up2_at (Or.inr (by decide)) eI31) e13.symm)
              have hv8t : (I31 a0 8).toInt = x13_.toInt := congrArg Int32.toInt hv8
              have hv9 : I31 a0 9 = x11_ := (Eq.trans (up2_at (Or.inr (by decide)) eI31) (by rw [eI12]; exact up2_self _ _ _ _))
              have hv9t : (I31 a0 9).toInt = x11_.toInt := congrArg Int32.toInt hv9
              refine r_sub [2, 1, 0] rfl ?_
              exact LP32 _ x15_ I31 hs31 hF31 (by omega) (by omega) rfl
          · refine r_aload_n hC dX10_goesOn_79 2 rfl ?_
            refine r_lconst hC (v := 0) dX10_goesOn_80 (by decide) (fun y62_ e62 => ?_)
            refine r_putj hC 14 (ci := 10) rfl u10_in tyX10_ok nmX10 (by decide) mT_5_9 rfl rfl rfl dX10_goesOn_81 ka0 rfl rfl (fun J63 eJ63 => ?_)
            have hFJ63 := hFJ.put eJ63 ka0 rfl
            have LP64 : ∀ (mu : Nat) (x64_2 : Int32) (I64 : Nat → Nat → Int32) (J64 : Nat → Nat → Int64) (hs64 : Sf K len I64 R) (hF64 : Fr K [(11, 8), (11, 9), (11, 10), (11, 11)] I I64) (hFJ64 : Fr K [(11, 14)] J J64) (v64_0 : A0.toInt ≤ (I64 a0 8).toInt) (v64_1 : (I64 a0 9).toInt = 0), (900 - (I64 a0 8).toInt).toNat = mu → P g X 3 84 [(0, .ref a0), (1, .int x14_), (2, .int x64_2)] [] 0 0 (K, len, I64, J64, R) := by
              intro mu; induction mu using Nat.strongRecOn with | ind mu ih => ?_
              intro x64_2 I64 J64 hs64 hF64 hFJ64 v64_0 v64_1 hmu
              have ih64 := ih
              clear ih
              have hmu64 := hmu
              clear hmu
              obtain ⟨Th64, eTh64⟩ : ∃ z : Int32, z = I64 a0 9 := ⟨_, rfl⟩
              have fTh64 : Th64.toInt = (I64 a0 9).toInt := by rw [eTh64]
              refine r_aload_n hC dX10_goesOn_84 0 rfl ?_
              refine r_aload_n hC dX10_goesOn_85 0 rfl ?_
              refine r_geti hC 8 (ci := 10) rfl u10_in (by decide) mT_5_3 dX10_goesOn_86 ka0 rfl rfl (fun x65_ e65 => ?_)
              have r65 := hs64.rng ka0 rfl e65
              have f65 : x65_.toInt = (I64 a0 8).toInt := by rw [e65]
              have hsz89 := hs64.rng ka0 (k := 7) rfl (x := I64 a0 7) rfl
              refine r_callV hC (As := [.int x65_]) (rest := []) (ci := 10) (c_X10_byteAt g (xL X) K len I64 J64 R hs64 a0 ka0 x65_ (by omega)) mT_5_203 mT_1_10 mT_5_200 mT_5_202 mP_50 okX10_byteAt ⟨by decide, by decide⟩ rfl (by show kO (K a0) = _; rw [ka0]; rfl) rfl rfl (Nat.le_of_ble_eq_true rfl) ⟨by decide, by decide⟩ dX10_goesOn_89 (aI0 (F := fun st M => P g X 3 92 [(0, .ref a0), (1, .int x14_), (2, .int x64_2)] st _ _ M) (M := (K, len, I64, J64, R)) fun x66_ h66 => ?_)
              have k66_0 := h66
              show P g X 3 92 [(0, .ref a0), (1, .int x14_), (2, .int x64_2)] [.int x66_] _ _ (K, len, I64, J64, R)
              refine r_callS hC (As := [.int x66_]) (rest := []) (c_X10_isLetter g (xL X) K len I64 J64 R hs64 x66_) mT_5_206 mT_1_10 mT_5_204 mT_5_205 okX10_isLetter ⟨by decide, by decide⟩ rfl rfl (Nat.le_of_ble_eq_true rfl) ⟨by decide, by decide⟩ dX10_goesOn_92 (aI0 (F := fun st M => P g X 3 95 [(0, .ref a0), (1, .int x14_), (2, .int x64_2)] st _ _ M) (M := (K, len, I64, J64, R)) fun x67_ h67 => ?_)
              obtain ⟨k67_0, k67_1, k67_2⟩ := h67
              show P g X 3 95 [(0, .ref a0), (1, .int x14_), (2, .int x64_2)] [.int x67_] _ _ (K, len, I64, J64, R)
              refine r_if_eq hC (tgt := 147) dX10_goesOn_95 (by decide) (fun c68 => ?_) (fun c68 => ?_)
              · refine r_iload_n hC dX10_goesOn_147 2 rfl ?_
                refine r_bipush hC (v := (8)) dX10_goesOn_148 (by decide) (by decide) (fun x69_ e69 t69 => ?_)
                refine r_icmp_gt hC (tgt := 265) dX10_goesOn_150 (by decide) (fun c70 => ?_) (fun c70 => ?_)
                · have hv8 : I64 a0 8 = x65_ := e65.symm
                  have hv8t : (I64 a0 8).toInt = x65_.toInt := congrArg Int32.toInt hv8
                  have hv9 : I64 a0 9 = Th64 := eTh64.symm
                  have hv9t : (I64 a0 9).toInt = Th64.toInt := congrArg Int32.toInt hv9
                  exact r_vret hC hQ hlk hr (by decide) (by decide) dX10_goesOn_265 ⟨_, _, rfl, rfl, ⟨hs64, hF64, hFJ64, (by omega), (by omega), (by omega), (by omega)⟩⟩
                · refine r_aload_n hC dX10_goesOn_153 0 rfl ?_
                  refine r_iconst hC (v := (2)) dX10_goesOn_154 (by decide) (by decide) (fun x71_ e71 t71 => ?_)
                  refine r_puti hC 9 (ci := 10) rfl u10_in tyX10_ok nmX10 (by decide) mT_5_4 rfl rfl rfl dX10_goesOn_155 ka0 rfl rfl (fun I72 eI72 => ?_)
                  have hs72 := hs64.put0 eI72 ka0 rfl rfl rfl (by decide)
                  have hF72 := hF64.put eI72 ka0 rfl
                  refine r_goto hC (tgt := 265) dX10_goesOn_158 (by decide) ?_
                  have hv8 : I72 a0 8 = x65_ := (Eq.trans (up2_at (Or.inr (by decide)) eI72) e65.symm)
                  have hv8t : (I72 a0 8).toInt = x65_.toInt := congrArg Int32.toInt hv8
                  have hv9 : I72 a0 9 = x71_ := (by rw [eI72]; exact up2_self _ _ _ _)
                  have hv9t : (I72 a0 9).toInt = x71_.toInt := congrArg Int32.toInt hv9
                  exact r_vret hC hQ hlk hr (by decide) (by decide) dX10_goesOn_265 ⟨_, _, rfl, rfl, ⟨hs72, hF72, hFJ64, (by omega), (by omega), (by omega), (by omega)⟩⟩
              · refine r_iload_n hC dX10_goesOn_98 2 rfl ?_
                refine r_bipush hC (v := (8)) dX10_goesOn_99 (by decide) (by decide) (fun x73_ e73 t73 => ?_)
                refine r_icmp_ge hC (tgt := 131) dX10_goesOn_101 (by decide) (fun c74 => ?_) (fun c74 => ?_)
                · obtain ⟨x75_, e75⟩ : ∃ z : Int32, z = x64_2 + Int32.ofInt (1) := ⟨_, rfl⟩
                  refine r_iinc hC (j := 2) (v := x75_) (lv' := [(2, .int x75_), (0, .ref a0), (1, .int x14_)]) dX10_goesOn_131 rfl (by rw [e75]) (by decide) rfl ?_
                  try have t75 : x75_.toInt = x64_2.toInt + (1) := by rw [e75]; exact (ti_add (b := Int32.ofInt (1)) (by show _ ≤ _ + (1 : Int); omega) (by show _ + (1 : Int) ≤ _; omega))
                  refine r_aload_n hC dX10_goesOn_134 1 rfl ?_
                  refine r_dup hC dX10_goesOn_135 rfl ?_
                  refine r_geti hC 8 (ci := 10) rfl u10_in (by decide) mT_5_3 dX10_goesOn_136 ka0 rfl rfl (fun x76_ e76 => ?_)
                  have r76 := hs64.rng ka0 rfl e76
                  have f76 : x76_.toInt = (I64 a0 8).toInt := by rw [e76]
                  have w76 : x76_ = x65_ := by rw [e76]; exact e65.symm
                  have wt76 : x76_.toInt = x65_.toInt := by rw [w76]
                  refine r_iconst hC (v := (1)) dX10_goesOn_139 (by decide) (by decide) (fun x77_ e77 t77 => ?_)
                  refine r_iadd hC dX10_goesOn_140 (fun x78_ e78 => ?_)
                  try have t78 : x78_.toInt = x76_.toInt + x77_.toInt := by rw [e78]; exact ti_add (by omega) (by omega)
                  refine r_puti hC 8 (ci := 10) rfl u10_in tyX10_ok nmX10 (by decide) mT_5_3 rfl rfl rfl dX10_goesOn_141 ka0 rfl rfl (fun I79 eI79 => ?_)
                  have hs79 := hs64.put1 eI79 ka0 rfl (by omega) (by omega) rfl rfl (by decide)
                  have hF79 := hF64.put eI79 ka0 rfl
                  refine r_goto hC (tgt := 84) dX10_goesOn_144 (by decide) ?_
                  have hv8 : I79 a0 8 = x78_ := (by rw [eI79]; exact up2_self _ _ _ _)
                  have hv8t : (I79 a0 8).toInt = x78_.toInt := congrArg Int32.toInt hv8
                  have hv9 : I79 a0 9 = Th64 := (Eq.trans (up2_at (Or.inr (by decide)) eI79) eTh64.symm)
                  have hv9t : (I79 a0 9).toInt = Th64.toInt := congrArg Int32.toInt hv9
                  refine r_sub [1, 2, 0] rfl ?_
                  exact ih64 ((900 - (I79 a0 8).toInt).toNat) (by omega) x75_ I79 J64 hs79 hF79 hFJ64 (by omega) (by omega) rfl
                · refine r_aload_n hC dX10_goesOn_104 0 rfl ?_
                  refine r_ldc2 hC mT_5_207 dX10_goesOn_105 (fun y80_ e80 => ?_)
                  refine r_aload_n hC dX10_goesOn_108 0 rfl ?_
                  refine r_getj hC 14 (ci := 10) rfl u10_in (by decide) mT_5_9 dX10_goesOn_109 ka0 rfl rfl (fun y81_ e81 => ?_)
                  refine r_lmul hC dX10_goesOn_112 (fun y82_ e82 => ?_)
                  refine r_aload_n hC dX10_goesOn_113 0 rfl ?_
                  refine r_aload_n hC dX10_goesOn_114 0 rfl ?_
                  refine r_geti hC 8 (ci := 10) rfl u10_in (by decide) mT_5_3 dX10_goesOn_115 ka0 rfl rfl (fun x83_ e83 => ?_)
                  have r83 := hs64.rng ka0 rfl e83
                  have f83 : x83_.toInt = (I64 a0 8).toInt := by rw [e83]
                  have w83 : x83_ = x65_ := by rw [e83]; exact e65.symm
                  have wt83 : x83_.toInt = x65_.toInt := by rw [w83]
                  have hsz118 := hs64.rng ka0 (k := 7) rfl (x := I64 a0 7) rfl
                  refine r_callV hC (As := [.int x83_]) (rest := [.long y82_, .ref a0]) (ci := 10) (c_X10_byteAt g (xL X) K len I64 J64 R hs64 a0 ka0 x83_ (by omega)) mT_5_203 mT_1_10 mT_5_200 mT_5_202 mP_50 okX10_byteAt ⟨by decide, by decide⟩ rfl (by show kO (K a0) = _; rw [ka0]; rfl) rfl rfl (Nat.le_of_ble_eq_true rfl) ⟨by decide, by decide⟩ dX10_goesOn_118 (aI0 (F := fun st M => P g X 3 121 [(0, .ref a0), (1, .int x14_), (2, .int x64_2)] st _ _ M) (M := (K, len, I64, J64, R)) fun x84_ h84 => ?_)
                  have k84_0 := h84
                  show P g X 3 121 [(0, .ref a0), (1, .int x14_), (2, .int x64_2)] [.int x84_, .long y82_, .ref a0] _ _ (K, len, I64, J64, R)
                  refine r_bipush hC (v := (97)) dX10_goesOn_121 (by decide) (by decide) (fun x85_ e85 t85 => ?_)
                  refine r_isub hC dX10_goesOn_123 (fun x86_ e86 => ?_)
                  try have t86 : x86_.toInt = x84_.toInt - x85_.toInt := by rw [e86]; exact ti_sub (by omega) (by omega)
                  refine r_iconst hC (v := (1)) dX10_goesOn_124 (by decide) (by decide) (fun x87_ e87 t87 => ?_)
                  refine r_iadd hC dX10_goesOn_125 (fun x88_ e88 => ?_)
                  try have t88 : x88_.toInt = x86_.toInt + x87_.toInt := by rw [e88]; exact ti_add (by omega) (by omega)
                  refine r_i2l hC dX10_goesOn_126 (fun y89_ e89 => ?_)
                  refine r_ladd hC dX10_goesOn_127 (fun y90_ e90 => ?_)
                  refine r_putj hC 14 (ci := 10) rfl u10_in tyX10_ok nmX10 (by decide) mT_5_9 rfl rfl rfl dX10_goesOn_128 ka0 rfl rfl (fun J91 eJ91 => ?_)
                  have hFJ91 := hFJ64.put eJ91 ka0 rfl
                  obtain ⟨x92_, e92⟩ : ∃ z : Int32, z = x64_2 + Int32.ofInt (1) := ⟨_, rfl⟩
                  refine r_iinc hC (j := 2) (v := x92_) (lv' := [(2, .int x92_), (0, .ref a0), (1, .int x14_)]) dX10_goesOn_131 rfl (by rw [e92]) (by decide) rfl ?_
                  try have t92 : x92_.toInt = x64_2.toInt + (1) := by rw [e92]; exact (ti_add (b := Int32.ofInt (1)) (by show _ ≤ _ + (1 : Int); omega) (by show _ + (1 : Int) ≤ _; omega))
                  refine r_aload_n hC dX10_goesOn_134 1 rfl ?_
                  refine r_dup hC dX10_goesOn_135 rfl ?_
                  refine r_geti hC 8 (ci := 10) rfl u10_in (by decide) mT_5_3 dX10_goesOn_136 ka0 rfl rfl (fun x93_ e93 => ?_)
                  have r93 := hs64.rng ka0 rfl e93
                  have f93 : x93_.toInt = (I64 a0 8).toInt := by rw [e93]
                  have w93 : x93_ = x83_ := by rw [e93]; exact e83.symm
                  have wt93 : x93_.toInt = x83_.toInt := by rw [w93]
                  refine r_iconst hC (v := (1)) dX10_goesOn_139 (by decide) (by decide) (fun x94_ e94 t94 => ?_)
                  refine r_iadd hC dX10_goesOn_140 (fun x95_ e95 => ?_)
                  try have t95 : x95_.toInt = x93_.toInt + x94_.toInt := by rw [e95]; exact ti_add (by omega) (by omega)
                  refine r_puti hC 8 (ci := 10) rfl u10_in tyX10_ok nmX10 (by decide) mT_5_3 rfl rfl rfl dX10_goesOn_141 ka0 rfl rfl (fun I96 eI96 => ?_)
                  have hs96 := hs64.put1 eI96 ka0 rfl (by omega) (by omega) rfl rfl (by decide)
                  have hF96 := hF64.put eI96 ka0 rfl
                  refine r_goto hC (tgt := 84) dX10_goesOn_144 (by decide) ?_
                  have hv8 : I96 a0 8 = x95_ := (by rw [eI96]; exact up2_self _ _ _ _)
                  have hv8t : (I96 a0 8).toInt = x95_.toInt := congrArg Int32.toInt hv8
                  have hv9 : I96 a0 9 = Th64 := (Eq.trans (up2_at (Or.inr (by decide)) eI96) eTh64.symm)
                  have hv9t : (I96 a0 9).toInt = Th64.toInt := congrArg Int32.toInt hv9
                  refine r_sub [1, 2, 0] rfl ?_
                  exact ih64 ((900 - (I96 a0 8).toInt).toNat) (by omega) x92_ I96 J91 hs96 hF96 hFJ91 (by omega) (by omega) rfl
            have hv8 : I12 a0 8 = x13_ := e13.symm
            have hv8t : (I12 a0 8).toInt = x13_.toInt := congrArg Int32.toInt hv8
            have hv9 : I12 a0 9 = x11_ := (by rw [eI12]; exact up2_self _ _ _ _)
            have hv9t : (I12 a0 9).toInt = x11_.toInt := congrArg Int32.toInt hv9
            refine r_sub [2, 1, 0] rfl ?_
            exact LP64 _ x15_ I12 J63 hs12 hF12 hFJ63 (by omega) (by omega) rfl
        · refine r_aload_n hC dX10_goesOn_64 2 rfl ?_
          refine r_iconst hC (v := (1)) dX10_goesOn_65 (by decide) (by decide) (fun x97_ e97 t97 => ?_)
          refine r_puti hC 9 (ci := 10) rfl u10_in tyX10_ok nmX10 (by decide) mT_5_4 rfl rfl rfl dX10_goesOn_66 ka0 rfl rfl (fun I98 eI98 => ?_)
          have hs98 := hs12.put0 eI98 ka0 rfl rfl rfl (by decide)
          have hF98 := hF12.put eI98 ka0 rfl
          refine r_goto hC (tgt := 265) dX10_goesOn_69 (by decide) ?_
          have hv8 : I98 a0 8 = x13_ := (Eq.trans (up2_at (Or.inr (by decide)) eI98) e13.symm)
          have hv8t : (I98 a0 8).toInt = x13_.toInt := congrArg Int32.toInt hv8
          have hv9 : I98 a0 9 = x97_ := (by rw [eI98]; exact up2_self _ _ _ _)
          have hv9t : (I98 a0 9).toInt = x97_.toInt := congrArg Int32.toInt hv9
          exact r_vret hC hQ hlk hr (by decide) (by decide) dX10_goesOn_265 ⟨_, _, rfl, rfl, ⟨hs98, hF98, hFJ, (by omega), (by omega), (by omega), (by omega)⟩⟩
      · refine r_aload_n hC dX10_goesOn_22 0 rfl ?_
        refine r_dup hC dX10_goesOn_23 rfl ?_
        refine r_geti hC 8 (ci := 10) rfl u10_in (by decide) mT_5_3 dX10_goesOn_24 ka0 rfl rfl (fun x99_ e99 => ?_)
        have r99 := hs4.rng ka0 rfl e99
        have f99 : x99_.toInt = (I4 a0 8).toInt := by rw [e99]
        have w99 : x99_ = x5_ := by rw [e99]; exact e5.symm
        have wt99 : x99_.toInt = x5_.toInt := by rw [w99]
        refine r_iconst hC (v := (1)) dX10_goesOn_27 (by decide) (by decide) (fun x100_ e100 t100 => ?_)
        refine r_iadd hC dX10_goesOn_28 (fun x101_ e101 => ?_)
        try have t101 : x101_.toInt = x99_.toInt + x100_.toInt := by rw [e101]; exact ti_add (by omega) (by omega)
        refine r_puti hC 8 (ci := 10) rfl u10_in tyX10_ok nmX10 (by decide) mT_5_3 rfl rfl rfl dX10_goesOn_29 ka0 rfl rfl (fun I102 eI102 => ?_)
        have hs102 := hs4.put1 eI102 ka0 rfl (by omega) (by omega) rfl rfl (by decide)
        have hF102 := hF4.put eI102 ka0 rfl
        refine r_goto hC (tgt := 9) dX10_goesOn_32 (by decide) ?_
        have hv8 : I102 a0 8 = x101_ := (by rw [eI102]; exact up2_self _ _ _ _)
        have hv8t : (I102 a0 8).toInt = x101_.toInt := congrArg Int32.toInt hv8
        refine r_sub [0] rfl ?_
        exact ih4 ((900 - (I102 a0 8).toInt).toNat) (by omega) I102 hs102 hF102 (by omega) rfl
    have hv8 : I a0 8 = A0 := eA0.symm
    have hv8t : (I a0 8).toInt = A0.toInt := congrArg Int32.toInt hv8
    refine r_sub [0] rfl ?_
    exact LP4 _ I hs hF (by omega) rfl
  · have hv8 : I a0 8 = A0 := eA0.symm
    have hv8t : (I a0 8).toInt = A0.toInt := congrArg Int32.toInt hv8
    have hv9 : I a0 9 = x1_ := e1.symm
    have hv9t : (I a0 9).toInt = x1_.toInt := congrArg Int32.toInt hv9
    exact r_vret hC hQ hlk hr (by decide) (by decide) dX10_goesOn_8 ⟨_, _, rfl, rfl, ⟨hs, hF, hFJ, (by omega), (by omega), (by omega), (by omega)⟩⟩
set_option maxHeartbeats 4000000 in
set_option maxRecDepth 100000 in
theorem c_X10_wrong (g : GG) (l : Launch) (K len : Nat → Nat) (I : Nat → Nat → Int32) (J : Nat → Nat → Int64) (R : Nat → Nat → Option Nat) (hs : Sf K len I R) (a0 : Nat) (ka0 : K a0 = 11) (x1 : Int32) : Ct g l yX10_wrong cX10_wrong 2 (Option.none : Option Jvm.ClassFile.FieldType) rmX10_wrong [.ref a0, .int x1] (K, len, I, J, R) (pV1 (K, len, I, J, R) (fun I' => Sf K len I' R ∧ Fr K [(11, 9), (11, 12), (11, 13)] I I' ∧ ((I' a0 9).toInt = 5) ∧ ((I' a0 8).toInt = (I a0 8).toInt))) := by
  refine Ct_intro (by decide +kernel) (Nat.le_of_ble_eq_true rfl) (fun X hC hL hKK hNm hr hlk hQ => ?_)
  subst hL
  have hC : Cx g X cX10_wrong "HillTapModel" 2 rmX10_wrong := hC
  show P g X 2 0 [(0, .ref a0), (1, .int x1)] [] 0 0 (K, len, I, J, R)
  have hF : Fr K [(11, 9), (11, 12), (11, 13)] I I := Fr.refl
  have b_x1 := ti_rng x1
  obtain ⟨T0, eT0⟩ : ∃ z : Int32, z = I a0 9 := ⟨_, rfl⟩
  have fT0 : T0.toInt = (I a0 9).toInt := by rw [eT0]
  refine r_aload_n hC dX10_wrong_0 0 rfl ?_
  refine r_geti hC 9 (ci := 10) rfl u10_in (by decide) mT_5_4 dX10_wrong_1 ka0 rfl rfl (fun x1_ e1 => ?_)
  have f1 : x1_.toInt = (I a0 9).toInt := by rw [e1]
  have w1 : x1_ = T0 := by rw [e1]; exact eT0.symm
  have wt1 : x1_.toInt = T0.toInt := by rw [w1]
  refine r_iconst hC (v := (5)) dX10_wrong_4 (by decide) (by decide) (fun x2_ e2 t2 => ?_)
  refine r_icmp_ne hC (tgt := 9) dX10_wrong_5 (by decide) (fun c3 => ?_) (fun c3 => ?_)
  · refine r_aload_n hC dX10_wrong_9 0 rfl ?_
    refine r_iload_n hC dX10_wrong_10 1 rfl ?_
    refine r_puti hC 12 (ci := 10) rfl u10_in tyX10_ok nmX10 (by decide) mT_5_7 rfl rfl rfl dX10_wrong_11 ka0 rfl rfl (fun I4 eI4 => ?_)
    have hs4 := hs.put0 eI4 ka0 rfl rfl rfl (by decide)
    have hF4 := hF.put eI4 ka0 rfl
    refine r_aload_n hC dX10_wrong_14 0 rfl ?_
    refine r_aload_n hC dX10_wrong_15 0 rfl ?_
    refine r_geti hC 10 (ci := 10) rfl u10_in (by decide) mT_5_5 dX10_wrong_16 ka0 rfl rfl (fun x5_ e5 => ?_)
    refine r_puti hC 13 (ci := 10) rfl u10_in tyX10_ok nmX10 (by decide) mT_5_8 rfl rfl rfl dX10_wrong_19 ka0 rfl rfl (fun I6 eI6 => ?_)
    have hs6 := hs4.put0 eI6 ka0 rfl rfl rfl (by decide)
    have hF6 := hF4.put eI6 ka0 rfl
    refine r_aload_n hC dX10_wrong_22 0 rfl ?_
    refine r_iconst hC (v := (5)) dX10_wrong_23 (by decide) (by decide) (fun x7_ e7 t7 => ?_)
    refine r_puti hC 9 (ci := 10) rfl u10_in tyX10_ok nmX10 (by decide) mT_5_4 rfl rfl rfl dX10_wrong_24 ka0 rfl rfl (fun I8 eI8 => ?_)
    have hs8 := hs6.put0 eI8 ka0 rfl rfl rfl (by decide)
    have hF8 := hF6.put eI8 ka0 rfl
    have hv9 : I8 a0 9 = x7_ := (by rw [eI8]; exact up2_self _ _ _ _)
    have hv9t : (I8 a0 9).toInt = x7_.toInt := congrArg Int32.toInt hv9
    exact r_vret hC hQ hlk hr (by decide) (by decide) dX10_wrong_27 ⟨_, rfl, rfl, ⟨hs8, hF8, (by omega), (by exact congrArg Int32.toInt (hF8.get ka0 rfl))⟩⟩
  · have hv9 : I a0 9 = x1_ := e1.symm
    have hv9t : (I a0 9).toInt = x1_.toInt := congrArg Int32.toInt hv9
    exact r_vret hC hQ hlk hr (by decide) (by decide) dX10_wrong_8 ⟨_, rfl, rfl, ⟨hs, hF, (by omega), (by exact congrArg Int32.toInt (hF.get ka0 rfl))⟩⟩
set_option maxHeartbeats 4000000 in
set_option maxRecDepth 100000 in
theorem c_X10_wordOf (g : GG) (l : Launch) (K len : Nat → Nat) (I : Nat → Nat → Int32) (J : Nat → Nat → Int64) (R : Nat → Nat → Option Nat) (hs : Sf K len I R) (i0 : Nat) (pi0 : i0 < 60) : Ct g l yX10_wordOf cX10_wordOf 4 (Option.some Jvm.ClassFile.FieldType.long) rmX10_wordOf [.ref (g.2.2.1 i0)] (K, len, I, J, R) (pL0 (K, len, I, J, R) (fun r => True)) := by
  refine Ct_intro (by decide +kernel) (Nat.le_of_ble_eq_true rfl) (fun X hC hL hKK hNm hr hlk hQ => ?_)
  subst hL
  have hC : Cx g X cX10_wordOf "HillTapModel" 4 rmX10_wordOf := hC
  show P g X 4 0 [(0, .ref (g.2.2.1 i0))] [] 0 0 (K, len, I, J, R)
  have hF : Fr K [] I I := Fr.refl
  refine r_lconst hC (v := 0) dX10_wordOf_0 (by decide) (fun y1_ e1 => ?_)
  refine r_lstore_n hC (lv' := [(1, .long y1_), (0, .ref (g.2.2.1 i0))]) dX10_wordOf_1 (by decide) rfl ?_
  refine r_iconst hC (v := (0)) dX10_wordOf_2 (by decide) (by decide) (fun x2_ e2 t2 => ?_)
  refine r_istore_n hC (lv' := [(3, .int x2_), (1, .long y1_), (0, .ref (g.2.2.1 i0))]) dX10_wordOf_3 (by decide) rfl ?_
  have LP3 : ∀ (mu : Nat) (x3_3 : Int32) (y3_1 : Int64) (v3_0 : 0 ≤ x3_3.toInt) (v3_1 : x3_3.toInt ≤ 20), (20 - x3_3.toInt).toNat = mu → P g X 4 4 [(0, .ref (g.2.2.1 i0)), (1, .long y3_1), (3, .int x3_3)] [] 0 0 (K, len, I, J, R) := by
    intro mu; induction mu using Nat.strongRecOn with | ind mu ih => ?_
    intro x3_3 y3_1 v3_0 v3_1 hmu
    have ih3 := ih
    clear ih
    have hmu3 := hmu
    clear hmu
    refine r_iload_n hC dX10_wordOf_4 2 rfl ?_
    refine r_aload_n hC dX10_wordOf_5 0 rfl ?_
    refine r_callT hC (As := []) (rest := [.int x3_3]) (i := i0) pi0 (c_J0_length_8abf5 g (xL X) K len I J R hs i0 pi0) mT_2_181 mT_1_13 mT_5_227 mT_2_179 mT_2_180 okJ0_length_8abf5 ⟨by decide, by decide⟩ rfl rfl (Nat.le_of_ble_eq_true rfl) ⟨by decide, by decide⟩ dX10_wordOf_6 (aI0 (F := fun st M => P g X 4 9 [(0, .ref (g.2.2.1 i0)), (1, .long y3_1), (3, .int x3_3)] st _ _ M) (M := (K, len, I, J, R)) fun x4_ h4 => ?_)
    obtain ⟨k4_0, k4_1, k4_2⟩ := h4
    show P g X 4 9 [(0, .ref (g.2.2.1 i0)), (1, .long y3_1), (3, .int x3_3)] [.int x4_, .int x3_3] _ _ (K, len, I, J, R)
    refine r_icmp_ge hC (tgt := 36) dX10_wordOf_9 (by decide) (fun c5 => ?_) (fun c5 => ?_)
    · refine r_lload_n hC dX10_wordOf_36 1 rfl ?_
      exact r_lret hC hQ hlk hr (by decide) (by decide) dX10_wordOf_37 ⟨_, rfl, rfl, trivial⟩
    · refine r_ldc2 hC mT_5_207 dX10_wordOf_12 (fun y6_ e6 => ?_)
      refine r_lload_n hC dX10_wordOf_15 1 rfl ?_
      refine r_lmul hC dX10_wordOf_16 (fun y7_ e7 => ?_)
      refine r_aload_n hC dX10_wordOf_17 0 rfl ?_
      refine r_iload_n hC dX10_wordOf_18 2 rfl ?_
      refine r_callT hC (As := [.int x3_3]) (rest := [.long y7_]) (i := i0) pi0 (c_J0_charAt_5068e g (xL X) K len I J R hs i0 pi0 x3_3 (by omega) (by omega)) mT_2_191 mT_1_13 mT_5_228 mT_2_189 mT_2_190 okJ0_charAt_5068e ⟨by decide, by decide⟩ rfl rfl (Nat.le_of_ble_eq_true rfl) ⟨by decide, by decide⟩ dX10_wordOf_19 (aI0 (F := fun st M => P g X 4 22 [(0, .ref (g.2.2.1 i0)), (1, .long y3_1), (3, .int x3_3)] st _ _ M) (M := (K, len, I, J, R)) fun x8_ h8 => ?_)
      have k8_0 := h8
      show P g X 4 22 [(0, .ref (g.2.2.1 i0)), (1, .long y3_1), (3, .int x3_3)] [.int x8_, .long y7_] _ _ (K, len, I, J, R)
      refine r_bipush hC (v := (97)) dX10_wordOf_22 (by decide) (by decide) (fun x9_ e9 t9 => ?_)
      refine r_isub hC dX10_wordOf_24 (fun x10_ e10 => ?_)
      try have t10 : x10_.toInt = x8_.toInt - x9_.toInt := by rw [e10]; exact ti_sub (by omega) (by omega)
      refine r_iconst hC (v := (1)) dX10_wordOf_25 (by decide) (by decide) (fun x11_ e11 t11 => ?_)
      refine r_iadd hC dX10_wordOf_26 (fun x12_ e12 => ?_)
      try have t12 : x12_.toInt = x10_.toInt + x11_.toInt := by rw [e12]; exact ti_add (by omega) (by omega)
      refine r_i2l hC dX10_wordOf_27 (fun y13_ e13 => ?_)
      refine r_ladd hC dX10_wordOf_28 (fun y14_ e14 => ?_)
      refine r_lstore_n hC (lv' := [(1, .long y14_), (0, .ref (g.2.2.1 i0)), (3, .int x3_3)]) dX10_wordOf_29 (by decide) rfl ?_
      obtain ⟨x15_, e15⟩ : ∃ z : Int32, z = x3_3 + Int32.ofInt (1) := ⟨_, rfl⟩
      refine r_iinc hC (j := 2) (v := x15_) (lv' := [(3, .int x15_), (1, .long y14_), (0, .ref (g.2.2.1 i0))]) dX10_wordOf_30 rfl (by rw [e15]) (by decide) rfl ?_
      try have t15 : x15_.toInt = x3_3.toInt + (1) := by rw [e15]; exact (ti_add (b := Int32.ofInt (1)) (by show _ ≤ _ + (1 : Int); omega) (by show _ + (1 : Int) ≤ _; omega))
      refine r_goto hC (tgt := 4) dX10_wordOf_33 (by decide) ?_
      refine r_sub [2, 1, 0] rfl ?_
      exact ih3 ((20 - x15_.toInt).toNat) (by omega) x15_ y14_ (by omega) (by omega) rfl
  refine r_sub [2, 1, 0] rfl ?_
  exact LP3 _ x2_ y1_ (by omega) (by omega) rfl
set_option maxHeartbeats 4000000 in
set_option maxRecDepth 100000 in
theorem c_X10_isWord (g : GG) (l : Launch) (K len : Nat → Nat) (I : Nat → Nat → Int32) (J : Nat → Nat → Int64) (R : Nat → Nat → Option Nat) (hs : Sf K len I R) (a0 : Nat) (ka0 : K a0 = 11) (i1 : Nat) (pi1 : i1 < 60) : Ct g l yX10_isWord cX10_isWord 2 (Option.some Jvm.ClassFile.FieldType.boolean) rmX10_isWord [.ref a0, .ref (g.2.2.1 i1)] (K, len, I, J, R) (pI0 (K, len, I, J, R) (fun r => (0 ≤ r.toInt) ∧ (r.toInt ≤ 1) ∧ (r.toInt ≠ 0 → (I a0 9).toInt = 2))) := by
  refine Ct_intro (by decide +kernel) (Nat.le_of_ble_eq_true rfl) (fun X hC hL hKK hNm hr hlk hQ => ?_)
  subst hL
  have hC : Cx g X cX10_isWord "HillTapModel" 2 rmX10_isWord := hC
  show P g X 2 0 [(0, .ref a0), (1, .ref (g.2.2.1 i1))] [] 0 0 (K, len, I, J, R)
  have hF : Fr K [] I I := Fr.refl
  refine r_aload_n hC dX10_isWord_0 0 rfl ?_
  refine r_geti hC 9 (ci := 10) rfl u10_in (by decide) mT_5_4 dX10_isWord_1 ka0 rfl rfl (fun x1_ e1 => ?_)
  have f1 : x1_.toInt = (I a0 9).toInt := by rw [e1]
  refine r_iconst hC (v := (2)) dX10_isWord_4 (by decide) (by decide) (fun x2_ e2 t2 => ?_)
  refine r_icmp_ne hC (tgt := 24) dX10_isWord_5 (by decide) (fun c3 => ?_) (fun c3 => ?_)
  · refine r_iconst hC (v := (0)) dX10_isWord_24 (by decide) (by decide) (fun x4_ e4 t4 => ?_)
    exact r_iret hC hQ hlk hr (by rw [e4]; rfl) (by decide) (by decide) dX10_isWord_25 ⟨_, rfl, rfl, ⟨(by omega), (by omega), (by omega)⟩⟩
  · refine r_aload_n hC dX10_isWord_8 0 rfl ?_
    refine r_getj hC 14 (ci := 10) rfl u10_in (by decide) mT_5_9 dX10_isWord_9 ka0 rfl rfl (fun y5_ e5 => ?_)
    refine r_aload_n hC dX10_isWord_12 1 rfl ?_
    refine r_callS hC (As := [.ref (g.2.2.1 i1)]) (rest := [.long y5_]) (c_X10_wordOf g (xL X) K len I J R hs i1 pi1) mT_5_226 mT_1_10 mT_5_224 mT_5_225 okX10_wordOf ⟨by decide, by decide⟩ rfl rfl (Nat.le_of_ble_eq_true rfl) ⟨by decide, by decide⟩ dX10_isWord_13 (aL0 (F := fun st M => P g X 2 16 [(0, .ref a0), (1, .ref (g.2.2.1 i1))] st _ _ M) (M := (K, len, I, J, R)) fun y6_ h6 => ?_)
    skip
    show P g X 2 16 [(0, .ref a0), (1, .ref (g.2.2.1 i1))] [.long y6_, .long y5_] _ _ (K, len, I, J, R)
    refine r_lcmp hC dX10_isWord_16 (fun x7_ e7 => ?_)
    refine r_if_ne hC (tgt := 24) dX10_isWord_17 (by decide) (fun c8 => ?_) (fun c8 => ?_)
    · refine r_iconst hC (v := (0)) dX10_isWord_24 (by decide) (by decide) (fun x9_ e9 t9 => ?_)
      exact r_iret hC hQ hlk hr (by rw [e9]; rfl) (by decide) (by decide) dX10_isWord_25 ⟨_, rfl, rfl, ⟨(by omega), (by omega), (by omega)⟩⟩
    · refine r_iconst hC (v := (1)) dX10_isWord_20 (by decide) (by decide) (fun x10_ e10 t10 => ?_)
      refine r_goto hC (tgt := 25) dX10_isWord_21 (by decide) ?_
      exact r_iret hC hQ hlk hr (by rw [e10]; rfl) (by decide) (by decide) dX10_isWord_25 ⟨_, rfl, rfl, ⟨(by omega), (by omega), (by omega)⟩⟩
set_option maxHeartbeats 4000000 in
set_option maxRecDepth 100000 in
theorem c_X10_isName (g : GG) (l : Launch) (K len : Nat → Nat) (I : Nat → Nat → Int32) (J : Nat → Nat → Int64) (R : Nat → Nat → Option Nat) (hs : Sf K len I R) (a0 : Nat) (ka0 : K a0 = 11) : Ct g l yX10_isName cX10_isName 1 (Option.some Jvm.ClassFile.FieldType.boolean) rmX10_isName [.ref a0] (K, len, I, J, R) (pI0 (K, len, I, J, R) (fun r => (0 ≤ r.toInt) ∧ (r.toInt ≤ 1) ∧ (r.toInt ≠ 0 → (I a0 9).toInt = 2))) := by
  refine Ct_intro (by decide +kernel) (Nat.le_of_ble_eq_true rfl) (fun X hC hL hKK hNm hr hlk hQ => ?_)
  subst hL
  have hC : Cx g X cX10_isName "HillTapModel" 1 rmX10_isName := hC
  show P g X 1 0 [(0, .ref a0)] [] 0 0 (K, len, I, J, R)
  have hF : Fr K [] I I := Fr.refl
  refine r_aload_n hC dX10_isName_0 0 rfl ?_
  refine r_geti hC 9 (ci := 10) rfl u10_in (by decide) mT_5_4 dX10_isName_1 ka0 rfl rfl (fun x1_ e1 => ?_)
  have f1 : x1_.toInt = (I a0 9).toInt := by rw [e1]
  refine r_iconst hC (v := (2)) dX10_isName_4 (by decide) (by decide) (fun x2_ e2 t2 => ?_)
  refine r_icmp_ne hC (tgt := 75) dX10_isName_5 (by decide) (fun c3 => ?_) (fun c3 => ?_)
  · refine r_iconst hC (v := (0)) dX10_isName_75 (by decide) (by decide) (fun x4_ e4 t4 => ?_)
    exact r_iret hC hQ hlk hr (by rw [e4]; rfl) (by decide) (by decide) dX10_isName_76 ⟨_, rfl, rfl, ⟨(by omega), (by omega), (by omega)⟩⟩
  · refine r_aload_n hC dX10_isName_8 0 rfl ?_
    refine r_ldcS hC (i := 31) (by decide) rfl rfl dX10_isName_9 ?_
    refine r_callV hC (As := [.ref (g.2.2.1 31)]) (rest := []) (ci := 10) (c_X10_isWord g (xL X) K len I J R hs a0 ka0 31 (by decide)) mT_5_223 mT_1_10 mT_5_220 mT_5_222 mP_53 okX10_isWord ⟨by decide, by decide⟩ rfl (by show kO (K a0) = _; rw [ka0]; rfl) rfl rfl (Nat.le_of_ble_eq_true rfl) ⟨by decide, by decide⟩ dX10_isName_11 (aI0 (F := fun st M => P g X 1 14 [(0, .ref a0)] st _ _ M) (M := (K, len, I, J, R)) fun x5_ h5 => ?_)
    obtain ⟨k5_0, k5_1, k5_2⟩ := h5
    show P g X 1 14 [(0, .ref a0)] [.int x5_] _ _ (K, len, I, J, R)
    refine r_if_ne hC (tgt := 75) dX10_isName_14 (by decide) (fun c6 => ?_) (fun c6 => ?_)
    · refine r_iconst hC (v := (0)) dX10_isName_75 (by decide) (by decide) (fun x7_ e7 t7 => ?_)
      exact r_iret hC hQ hlk hr (by rw [e7]; rfl) (by decide) (by decide) dX10_isName_76 ⟨_, rfl, rfl, ⟨(by omega), (by omega), (by omega)⟩⟩
    · refine r_aload_n hC dX10_isName_17 0 rfl ?_
      refine r_ldcS hC (i := 35) (by decide) rfl rfl dX10_isName_18 ?_
      refine r_callV hC (As := [.ref (g.2.2.1 35)]) (rest := []) (ci := 10) (c_X10_isWord g (xL X) K len I J R hs a0 ka0 35 (by decide)) mT_5_223 mT_1_10 mT_5_220 mT_5_222 mP_53 okX10_isWord ⟨by decide, by decide⟩ rfl (by show kO (K a0) = _; rw [ka0]; rfl) rfl rfl (Nat.le_of_ble_eq_true rfl) ⟨by decide, by decide⟩ dX10_isName_20 (aI0 (F := fun st M => P g X 1 23 [(0, .ref a0)] st _ _ M) (M := (K, len, I, J, R)) fun x8_ h8 => ?_)
      obtain ⟨k8_0, k8_1, k8_2⟩ := h8
      show P g X 1 23 [(0, .ref a0)] [.int x8_] _ _ (K, len, I, J, R)
      refine r_if_ne hC (tgt := 75) dX10_isName_23 (by decide) (fun c9 => ?_) (fun c9 => ?_)
      · refine r_iconst hC (v := (0)) dX10_isName_75 (by decide) (by decide) (fun x10_ e10 t10 => ?_)
        exact r_iret hC hQ hlk hr (by rw [e10]; rfl) (by decide) (by decide) dX10_isName_76 ⟨_, rfl, rfl, ⟨(by omega), (by omega), (by omega)⟩⟩
      · refine r_aload_n hC dX10_isName_26 0 rfl ?_
        refine r_ldcS hC (i := 36) (by decide) rfl rfl dX10_isName_27 ?_
        refine r_callV hC (As := [.ref (g.2.2.1 36)]) (rest := []) (ci := 10) (c_X10_isWord g (xL X) K len I J R hs a0 ka0 36 (by decide)) mT_5_223 mT_1_10 mT_5_220 mT_5_222 mP_53 okX10_isWord ⟨by decide, by decide⟩ rfl (by show kO (K a0) = _; rw [ka0]; rfl) rfl rfl (Nat.le_of_ble_eq_true rfl) ⟨by decide, by decide⟩ dX10_isName_29 (aI0 (F := fun st M => P g X 1 32 [(0, .ref a0)] st _ _ M) (M := (K, len, I, J, R)) fun x11_ h11 => ?_)
        obtain ⟨k11_0, k11_1, k11_2⟩ := h11
        show P g X 1 32 [(0, .ref a0)] [.int x11_] _ _ (K, len, I, J, R)
        refine r_if_ne hC (tgt := 75) dX10_isName_32 (by decide) (fun c12 => ?_) (fun c12 => ?_)
        · refine r_iconst hC (v := (0)) dX10_isName_75 (by decide) (by decide) (fun x13_ e13 t13 => ?_)
          exact r_iret hC hQ hlk hr (by rw [e13]; rfl) (by decide) (by decide) dX10_isName_76 ⟨_, rfl, rfl, ⟨(by omega), (by omega), (by omega)⟩⟩
        · refine r_aload_n hC dX10_isName_35 0 rfl ?_
          refine r_ldcS hC (i := 37) (by decide) rfl rfl dX10_isName_36 ?_
          refine r_callV hC (As := [.ref (g.2.2.1 37)]) (rest := []) (ci := 10) (c_X10_isWord g (xL X) K len I J R hs a0 ka0 37 (by decide)) mT_5_223 mT_1_10 mT_5_220 mT_5_222 mP_53 okX10_isWord ⟨by decide, by decide⟩ rfl (by show kO (K a0) = _; rw [ka0]; rfl) rfl rfl (Nat.le_of_ble_eq_true rfl) ⟨by decide, by decide⟩ dX10_isName_38 (aI0 (F := fun st M => P g X 1 41 [(0, .ref a0)] st _ _ M) (M := (K, len, I, J, R)) fun x14_ h14 => ?_)
          obtain ⟨k14_0, k14_1, k14_2⟩ := h14
          show P g X 1 41 [(0, .ref a0)] [.int x14_] _ _ (K, len, I, J, R)
          refine r_if_ne hC (tgt := 75) dX10_isName_41 (by decide) (fun c15 => ?_) (fun c15 => ?_)
          · refine r_iconst hC (v := (0)) dX10_isName_75 (by decide) (by decide) (fun x16_ e16 t16 => ?_)
            exact r_iret hC hQ hlk hr (by rw [e16]; rfl) (by decide) (by decide) dX10_isName_76 ⟨_, rfl, rfl, ⟨(by omega), (by omega), (by omega)⟩⟩
          · refine r_aload_n hC dX10_isName_44 0 rfl ?_
            refine r_ldcS hC (i := 38) (by decide) rfl rfl dX10_isName_45 ?_
            refine r_callV hC (As := [.ref (g.2.2.1 38)]) (rest := []) (ci := 10) (c_X10_isWord g (xL X) K len I J R hs a0 ka0 38 (by decide)) mT_5_223 mT_1_10 mT_5_220 mT_5_222 mP_53 okX10_isWord ⟨by decide, by decide⟩ rfl (by show kO (K a0) = _; rw [ka0]; rfl) rfl rfl (Nat.le_of_ble_eq_true rfl) ⟨by decide, by decide⟩ dX10_isName_47 (aI0 (F := fun st M => P g X 1 50 [(0, .ref a0)] st _ _ M) (M := (K, len, I, J, R)) fun x17_ h17 => ?_)
            obtain ⟨k17_0, k17_1, k17_2⟩ := h17
            show P g X 1 50 [(0, .ref a0)] [.int x17_] _ _ (K, len, I, J, R)
            refine r_if_ne hC (tgt := 75) dX10_isName_50 (by decide) (fun c18 => ?_) (fun c18 => ?_)
            · refine r_iconst hC (v := (0)) dX10_isName_75 (by decide) (by decide) (fun x19_ e19 t19 => ?_)
              exact r_iret hC hQ hlk hr (by rw [e19]; rfl) (by decide) (by decide) dX10_isName_76 ⟨_, rfl, rfl, ⟨(by omega), (by omega), (by omega)⟩⟩
            · refine r_aload_n hC dX10_isName_53 0 rfl ?_
              refine r_ldcS hC (i := 39) (by decide) rfl rfl dX10_isName_54 ?_
              refine r_callV hC (As := [.ref (g.2.2.1 39)]) (rest := []) (ci := 10) (c_X10_isWord g (xL X) K len I J R hs a0 ka0 39 (by decide)) mT_5_223 mT_1_10 mT_5_220 mT_5_222 mP_53 okX10_isWord ⟨by decide, by decide⟩ rfl (by show kO (K a0) = _; rw [ka0]; rfl) rfl rfl (Nat.le_of_ble_eq_true rfl) ⟨by decide, by decide⟩ dX10_isName_56 (aI0 (F := fun st M => P g X 1 59 [(0, .ref a0)] st _ _ M) (M := (K, len, I, J, R)) fun x20_ h20 => ?_)
              obtain ⟨k20_0, k20_1, k20_2⟩ := h20
              show P g X 1 59 [(0, .ref a0)] [.int x20_] _ _ (K, len, I, J, R)
              refine r_if_ne hC (tgt := 75) dX10_isName_59 (by decide) (fun c21 => ?_) (fun c21 => ?_)
              · refine r_iconst hC (v := (0)) dX10_isName_75 (by decide) (by decide) (fun x22_ e22 t22 => ?_)
                exact r_iret hC hQ hlk hr (by rw [e22]; rfl) (by decide) (by decide) dX10_isName_76 ⟨_, rfl, rfl, ⟨(by omega), (by omega), (by omega)⟩⟩
              · refine r_aload_n hC dX10_isName_62 0 rfl ?_
                refine r_ldcS hC (i := 40) (by decide) rfl rfl dX10_isName_63 ?_
                refine r_callV hC (As := [.ref (g.2.2.1 40)]) (rest := []) (ci := 10) (c_X10_isWord g (xL X) K len I J R hs a0 ka0 40 (by decide)) mT_5_223 mT_1_10 mT_5_220 mT_5_222 mP_53 okX10_isWord ⟨by decide, by decide⟩ rfl (by show kO (K a0) = _; rw [ka0]; rfl) rfl rfl (Nat.le_of_ble_eq_true rfl) ⟨by decide, by decide⟩ dX10_isName_65 (aI0 (F := fun st M => P g X 1 68 [(0, .ref a0)] st _ _ M) (M := (K, len, I, J, R)) fun x23_ h23 => ?_)
                obtain ⟨k23_0, k23_1, k23_2⟩ := h23
                show P g X 1 68 [(0, .ref a0)] [.int x23_] _ _ (K, len, I, J, R)
                refine r_if_ne hC (tgt := 75) dX10_isName_68 (by decide) (fun c24 => ?_) (fun c24 => ?_)
                · refine r_iconst hC (v := (0)) dX10_isName_75 (by decide) (by decide) (fun x25_ e25 t25 => ?_)
                  exact r_iret hC hQ hlk hr (by rw [e25]; rfl) (by decide) (by decide) dX10_isName_76 ⟨_, rfl, rfl, ⟨(by omega), (by omega), (by omega)⟩⟩
                · refine r_iconst hC (v := (1)) dX10_isName_71 (by decide) (by decide) (fun x26_ e26 t26 => ?_)
                  refine r_goto hC (tgt := 76) dX10_isName_72 (by decide) ?_
                  exact r_iret hC hQ hlk hr (by rw [e26]; rfl) (by decide) (by decide) dX10_isName_76 ⟨_, rfl, rfl, ⟨(by omega), (by omega), (by omega)⟩⟩
set_option maxHeartbeats 4000000 in
set_option maxRecDepth 100000 in
theorem c_X10_readWhole (g : GG) (l : Launch) (K len : Nat → Nat) (I : Nat → Nat → Int32) (J : Nat → Nat → Int64) (R : Nat → Nat → Option Nat) (hs : Sf K len I R) (a0 : Nat) (ka0 : K a0 = 11) (x1 : Int32) (x2 : Int32) : Ct g l yX10_readWhole cX10_readWhole 4 (Option.some Jvm.ClassFile.FieldType.int) rmX10_readWhole [.ref a0, .int x1, .int x2] (K, len, I, J, R) (pI2 (K, len, I, J, R) (fun r I' J' => Sf K len I' R ∧ Fr K [(11, 8), (11, 9), (11, 10), (11, 11), (11, 12), (11, 13)] I I' ∧ Fr K [(11, 14)] J J' ∧ ((I a0 9).toInt = 5 → (I' a0 9).toInt = 5) ∧ ((I' a0 9).toInt ≠ 5 → x1.toInt ≤ r.toInt ∧ r.toInt ≤ x2.toInt) ∧ ((I a0 8).toInt ≤ (I' a0 8).toInt) ∧ ((I' a0 9).toInt = 4 → (I a0 8).toInt < (I' a0 8).toInt))) := by
  refine Ct_intro (by decide +kernel) (Nat.le_of_ble_eq_true rfl) (fun X hC hL hKK hNm hr hlk hQ => ?_)
  subst hL
  have hC : Cx g X cX10_readWhole "HillTapModel" 4 rmX10_readWhole := hC
  show P g X 4 0 [(0, .ref a0), (1, .int x1), (2, .int x2)] [] 0 0 (K, len, I, J, R)
  have hF : Fr K [(11, 8), (11, 9), (11, 10), (11, 11), (11, 12), (11, 13)] I I := Fr.refl
  have hFJ : Fr K [(11, 14)] J J := Fr.refl
  have b_x1 := ti_rng x1
  have b_x2 := ti_rng x2
  refine r_aload_n hC dX10_readWhole_0 0 rfl ?_
  refine r_geti hC 9 (ci := 10) rfl u10_in (by decide) mT_5_4 dX10_readWhole_1 ka0 rfl rfl (fun x1_ e1 => ?_)
  have f1 : x1_.toInt = (I a0 9).toInt := by rw [e1]
  refine r_iconst hC (v := (3)) dX10_readWhole_4 (by decide) (by decide) (fun x2_ e2 t2 => ?_)
  refine r_icmp_eq hC (tgt := 16) dX10_readWhole_5 (by decide) (fun c3 => ?_) (fun c3 => ?_)
  · refine r_aload_n hC dX10_readWhole_16 0 rfl ?_
    refine r_geti hC 11 (ci := 10) rfl u10_in (by decide) mT_5_6 dX10_readWhole_17 ka0 rfl rfl (fun x4_ e4 => ?_)
    have f4 : x4_.toInt = (I a0 11).toInt := by rw [e4]
    refine r_iload_n hC dX10_readWhole_20 1 rfl ?_
    refine r_iload_n hC dX10_readWhole_21 2 rfl ?_
    refine r_callS hC (As := [.int x4_, .int x1, .int x2]) (rest := []) (c_X10_in g (xL X) K len I J R hs x4_ x1 x2) mT_6_8 mT_1_10 mT_6_6 mT_6_7 okX10_in ⟨by decide, by decide⟩ rfl rfl (Nat.le_of_ble_eq_true rfl) ⟨by decide, by decide⟩ dX10_readWhole_22 (aI0 (F := fun st M => P g X 4 25 [(0, .ref a0), (1, .int x1), (2, .int x2)] st _ _ M) (M := (K, len, I, J, R)) fun x5_ h5 => ?_)
    obtain ⟨k5_0, k5_1, k5_2⟩ := h5
    show P g X 4 25 [(0, .ref a0), (1, .int x1), (2, .int x2)] [.int x5_] _ _ (K, len, I, J, R)
    refine r_if_ne hC (tgt := 33) dX10_readWhole_25 (by decide) (fun c6 => ?_) (fun c6 => ?_)
    · refine r_aload_n hC dX10_readWhole_33 0 rfl ?_
      refine r_geti hC 11 (ci := 10) rfl u10_in (by decide) mT_5_6 dX10_readWhole_34 ka0 rfl rfl (fun x7_ e7 => ?_)
      have f7 : x7_.toInt = (I a0 11).toInt := by rw [e7]
      have w7 : x7_ = x4_ := by rw [e7]; exact e4.symm
      have wt7 : x7_.toInt = x4_.toInt := by rw [w7]
      refine r_istore_n hC (lv' := [(3, .int x7_), (0, .ref a0), (1, .int x1), (2, .int x2)]) dX10_readWhole_37 (by decide) rfl ?_
      refine r_aload_n hC dX10_readWhole_38 1 rfl ?_
      refine r_callV hC (As := []) (rest := []) (ci := 10) (c_X10_goesOn g (xL X) K len I J R hs a0 ka0) mT_5_199 mT_1_10 mT_5_196 mT_5_198 mP_49 okX10_goesOn ⟨by decide, by decide⟩ rfl (by show kO (K a0) = _; rw [ka0]; rfl) rfl rfl (Nat.le_of_ble_eq_true rfl) ⟨by decide, by decide⟩ dX10_readWhole_39 (aV2 (F := fun st M => P g X 4 42 [(3, .int x7_), (0, .ref a0), (1, .int x1), (2, .int x2)] st _ _ M) (M := (K, len, I, J, R)) fun I8 J8 h8 => ?_)
      obtain ⟨hs8, hf8, hfj8, k8_0, k8_1, k8_2, k8_3⟩ := h8
      show P g X 4 42 [(3, .int x7_), (0, .ref a0), (1, .int x1), (2, .int x2)] [] _ _ (K, len, I8, J8, R)
      have hF8 : Fr K [(11, 8), (11, 9), (11, 10), (11, 11), (11, 12), (11, 13)] I I8 := hF.trans hf8 rfl rfl
      have hFJ8 : Fr K [(11, 14)] J J8 := hFJ.trans hfj8 rfl rfl
      refine r_iload_n hC dX10_readWhole_42 0 rfl ?_
      exact r_iret hC hQ hlk hr rfl (by decide) (by decide) dX10_readWhole_43 ⟨_, _, _, rfl, rfl, ⟨hs8, hF8, hFJ8, (by omega), (by omega), (by omega), (by omega)⟩⟩
    · refine r_aload_n hC dX10_readWhole_28 0 rfl ?_
      refine r_iconst hC (v := (4)) dX10_readWhole_29 (by decide) (by decide) (fun x9_ e9 t9 => ?_)
      refine r_callV hC (As := [.int x9_]) (rest := []) (ci := 10) (c_X10_wrong g (xL X) K len I J R hs a0 ka0 x9_) mT_5_236 mT_1_10 mT_5_233 mT_5_235 mP_55 okX10_wrong ⟨by decide, by decide⟩ rfl (by show kO (K a0) = _; rw [ka0]; rfl) rfl rfl (Nat.le_of_ble_eq_true rfl) ⟨by decide, by decide⟩ dX10_readWhole_30 (aV1 (F := fun st M => P g X 4 33 [(0, .ref a0), (1, .int x1), (2, .int x2)] st _ _ M) (M := (K, len, I, J, R)) fun I10 h10 => ?_)
      obtain ⟨hs10, hf10, k10_0, k10_1⟩ := h10
      show P g X 4 33 [(0, .ref a0), (1, .int x1), (2, .int x2)] [] _ _ (K, len, I10, J, R)
      have hF10 : Fr K [(11, 8), (11, 9), (11, 10), (11, 11), (11, 12), (11, 13)] I I10 := hF.trans hf10 rfl rfl
      refine r_aload_n hC dX10_readWhole_33 0 rfl ?_
      refine r_geti hC 11 (ci := 10) rfl u10_in (by decide) mT_5_6 dX10_readWhole_34 ka0 rfl rfl (fun x11_ e11 => ?_)
      have f11 : x11_.toInt = (I10 a0 11).toInt := by rw [e11]
      have w11 : x11_ = x4_ := by rw [e11]; exact (Eq.trans (hf10.get ka0 rfl) e4.symm)
      have wt11 : x11_.toInt = x4_.toInt := by rw [w11]
      refine r_istore_n hC (lv' := [(3, .int x11_), (0, .ref a0), (1, .int x1), (2, .int x2)]) dX10_readWhole_37 (by decide) rfl ?_
      refine r_aload_n hC dX10_readWhole_38 1 rfl ?_
      refine r_callV hC (As := []) (rest := []) (ci := 10) (c_X10_goesOn g (xL X) K len I10 J R hs10 a0 ka0) mT_5_199 mT_1_10 mT_5_196 mT_5_198 mP_49 okX10_goesOn ⟨by decide, by decide⟩ rfl (by show kO (K a0) = _; rw [ka0]; rfl) rfl rfl (Nat.le_of_ble_eq_true rfl) ⟨by decide, by decide⟩ dX10_readWhole_39 (aV2 (F := fun st M => P g X 4 42 [(3, .int x11_), (0, .ref a0), (1, .int x1), (2, .int x2)] st _ _ M) (M := (K, len, I10, J, R)) fun I12 J12 h12 => ?_)
      obtain ⟨hs12, hf12, hfj12, k12_0, k12_1, k12_2, k12_3⟩ := h12
      show P g X 4 42 [(3, .int x11_), (0, .ref a0), (1, .int x1), (2, .int x2)] [] _ _ (K, len, I12, J12, R)
      have hF12 : Fr K [(11, 8), (11, 9), (11, 10), (11, 11), (11, 12), (11, 13)] I I12 := hF10.trans hf12 rfl rfl
      have hFJ12 : Fr K [(11, 14)] J J12 := hFJ.trans hfj12 rfl rfl
      refine r_iload_n hC dX10_readWhole_42 0 rfl ?_
      exact r_iret hC hQ hlk hr rfl (by decide) (by decide) dX10_readWhole_43 ⟨_, _, _, rfl, rfl, ⟨hs12, hF12, hFJ12, (by omega), (by omega), (by omega), (by omega)⟩⟩
  · refine r_aload_n hC dX10_readWhole_8 0 rfl ?_
    refine r_iconst hC (v := (1)) dX10_readWhole_9 (by decide) (by decide) (fun x13_ e13 t13 => ?_)
    refine r_callV hC (As := [.int x13_]) (rest := []) (ci := 10) (c_X10_wrong g (xL X) K len I J R hs a0 ka0 x13_) mT_5_236 mT_1_10 mT_5_233 mT_5_235 mP_55 okX10_wrong ⟨by decide, by decide⟩ rfl (by show kO (K a0) = _; rw [ka0]; rfl) rfl rfl (Nat.le_of_ble_eq_true rfl) ⟨by decide, by decide⟩ dX10_readWhole_10 (aV1 (F := fun st M => P g X 4 13 [(0, .ref a0), (1, .int x1), (2, .int x2)] st _ _ M) (M := (K, len, I, J, R)) fun I14 h14 => ?_)
    obtain ⟨hs14, hf14, k14_0, k14_1⟩ := h14
    show P g X 4 13 [(0, .ref a0), (1, .int x1), (2, .int x2)] [] _ _ (K, len, I14, J, R)
    have hF14 : Fr K [(11, 8), (11, 9), (11, 10), (11, 11), (11, 12), (11, 13)] I I14 := hF.trans hf14 rfl rfl
    refine r_goto hC (tgt := 33) dX10_readWhole_13 (by decide) ?_
    refine r_aload_n hC dX10_readWhole_33 0 rfl ?_
    refine r_geti hC 11 (ci := 10) rfl u10_in (by decide) mT_5_6 dX10_readWhole_34 ka0 rfl rfl (fun x15_ e15 => ?_)
    have f15 : x15_.toInt = (I14 a0 11).toInt := by rw [e15]
    refine r_istore_n hC (lv' := [(3, .int x15_), (0, .ref a0), (1, .int x1), (2, .int x2)]) dX10_readWhole_37 (by decide) rfl ?_
    refine r_aload_n hC dX10_readWhole_38 1 rfl ?_
    refine r_callV hC (As := []) (rest := []) (ci := 10) (c_X10_goesOn g (xL X) K len I14 J R hs14 a0 ka0) mT_5_199 mT_1_10 mT_5_196 mT_5_198 mP_49 okX10_goesOn ⟨by decide, by decide⟩ rfl (by show kO (K a0) = _; rw [ka0]; rfl) rfl rfl (Nat.le_of_ble_eq_true rfl) ⟨by decide, by decide⟩ dX10_readWhole_39 (aV2 (F := fun st M => P g X 4 42 [(3, .int x15_), (0, .ref a0), (1, .int x1), (2, .int x2)] st _ _ M) (M := (K, len, I14, J, R)) fun I16 J16 h16 => ?_)
    obtain ⟨hs16, hf16, hfj16, k16_0, k16_1, k16_2, k16_3⟩ := h16
    show P g X 4 42 [(3, .int x15_), (0, .ref a0), (1, .int x1), (2, .int x2)] [] _ _ (K, len, I16, J16, R)
    have hF16 : Fr K [(11, 8), (11, 9), (11, 10), (11, 11), (11, 12), (11, 13)] I I16 := hF14.trans hf16 rfl rfl
    have hFJ16 : Fr K [(11, 14)] J J16 := hFJ.trans hfj16 rfl rfl
    refine r_iload_n hC dX10_readWhole_42 0 rfl ?_
    exact r_iret hC hQ hlk hr rfl (by decide) (by decide) dX10_readWhole_43 ⟨_, _, _, rfl, rfl, ⟨hs16, hF16, hFJ16, (by omega), (by omega), (by omega), (by omega)⟩⟩
set_option maxHeartbeats 4000000 in
set_option maxRecDepth 100000 in
theorem c_X10_readPart (g : GG) (l : Launch) (K len : Nat → Nat) (I : Nat → Nat → Int32) (J : Nat → Nat → Int64) (R : Nat → Nat → Option Nat) (hs : Sf K len I R) (a0 : Nat) (ka0 : K a0 = 11) (i1 : Nat) (pi1 : i1 < 60) (x2 : Int32) (x3 : Int32) : Ct g l yX10_readPart cX10_readPart 4 (Option.some Jvm.ClassFile.FieldType.int) rmX10_readPart [.ref a0, .ref (g.2.2.1 i1), .int x2, .int x3] (K, len, I, J, R) (pI2 (K, len, I, J, R) (fun r I' J' => Sf K len I' R ∧ Fr K [(11, 8), (11, 9), (11, 10), (11, 11), (11, 12), (11, 13)] I I' ∧ Fr K [(11, 14)] J J' ∧ ((I a0 9).toInt = 5 → (I' a0 9).toInt = 5) ∧ ((I' a0 9).toInt ≠ 5 → x2.toInt ≤ r.toInt ∧ r.toInt ≤ x3.toInt) ∧ ((I a0 8).toInt ≤ (I' a0 8).toInt) ∧ ((I' a0 9).toInt = 4 → (I a0 8).toInt < (I' a0 8).toInt))) := by
  refine Ct_intro (by decide +kernel) (Nat.le_of_ble_eq_true rfl) (fun X hC hL hKK hNm hr hlk hQ => ?_)
  subst hL
  have hC : Cx g X cX10_readPart "HillTapModel" 4 rmX10_readPart := hC
  show P g X 4 0 [(0, .ref a0), (1, .ref (g.2.2.1 i1)), (2, .int x2), (3, .int x3)] [] 0 0 (K, len, I, J, R)
  have hF : Fr K [(11, 8), (11, 9), (11, 10), (11, 11), (11, 12), (11, 13)] I I := Fr.refl
  have hFJ : Fr K [(11, 14)] J J := Fr.refl
  have b_x2 := ti_rng x2
  have b_x3 := ti_rng x3
  refine r_aload_n hC dX10_readPart_0 0 rfl ?_
  refine r_aload_n hC dX10_readPart_1 1 rfl ?_
  refine r_callV hC (As := [.ref (g.2.2.1 i1)]) (rest := []) (ci := 10) (c_X10_isWord g (xL X) K len I J R hs a0 ka0 i1 pi1) mT_5_223 mT_1_10 mT_5_220 mT_5_222 mP_53 okX10_isWord ⟨by decide, by decide⟩ rfl (by show kO (K a0) = _; rw [ka0]; rfl) rfl rfl (Nat.le_of_ble_eq_true rfl) ⟨by decide, by decide⟩ dX10_readPart_2 (aI0 (F := fun st M => P g X 4 5 [(0, .ref a0), (1, .ref (g.2.2.1 i1)), (2, .int x2), (3, .int x3)] st _ _ M) (M := (K, len, I, J, R)) fun x1_ h1 => ?_)
  obtain ⟨k1_0, k1_1, k1_2⟩ := h1
  show P g X 4 5 [(0, .ref a0), (1, .ref (g.2.2.1 i1)), (2, .int x2), (3, .int x3)] [.int x1_] _ _ (K, len, I, J, R)
  refine r_if_ne hC (tgt := 13) dX10_readPart_5 (by decide) (fun c2 => ?_) (fun c2 => ?_)
  · refine r_aload_n hC dX10_readPart_13 0 rfl ?_
    refine r_callV hC (As := []) (rest := []) (ci := 10) (c_X10_goesOn g (xL X) K len I J R hs a0 ka0) mT_5_199 mT_1_10 mT_5_196 mT_5_198 mP_49 okX10_goesOn ⟨by decide, by decide⟩ rfl (by show kO (K a0) = _; rw [ka0]; rfl) rfl rfl (Nat.le_of_ble_eq_true rfl) ⟨by decide, by decide⟩ dX10_readPart_14 (aV2 (F := fun st M => P g X 4 17 [(0, .ref a0), (1, .ref (g.2.2.1 i1)), (2, .int x2), (3, .int x3)] st _ _ M) (M := (K, len, I, J, R)) fun I3 J3 h3 => ?_)
    obtain ⟨hs3, hf3, hfj3, k3_0, k3_1, k3_2, k3_3⟩ := h3
    show P g X 4 17 [(0, .ref a0), (1, .ref (g.2.2.1 i1)), (2, .int x2), (3, .int x3)] [] _ _ (K, len, I3, J3, R)
    have hF3 : Fr K [(11, 8), (11, 9), (11, 10), (11, 11), (11, 12), (11, 13)] I I3 := hF.trans hf3 rfl rfl
    have hFJ3 : Fr K [(11, 14)] J J3 := hFJ.trans hfj3 rfl rfl
    refine r_aload_n hC dX10_readPart_17 0 rfl ?_
    refine r_iload_n hC dX10_readPart_18 2 rfl ?_
    refine r_iload_n hC dX10_readPart_19 3 rfl ?_
    refine r_callV hC (As := [.int x2, .int x3]) (rest := []) (ci := 10) (c_X10_readWhole g (xL X) K len I3 J3 R hs3 a0 ka0 x2 x3) mT_6_5 mT_1_10 mT_6_2 mT_6_4 mP_57 okX10_readWhole ⟨by decide, by decide⟩ rfl (by show kO (K a0) = _; rw [ka0]; rfl) rfl rfl (Nat.le_of_ble_eq_true rfl) ⟨by decide, by decide⟩ dX10_readPart_20 (aI2 (F := fun st M => P g X 4 23 [(0, .ref a0), (1, .ref (g.2.2.1 i1)), (2, .int x2), (3, .int x3)] st _ _ M) (M := (K, len, I3, J3, R)) fun x4_ I4 J4 h4 => ?_)
    obtain ⟨hs4, hf4, hfj4, k4_0, k4_1, k4_2, k4_3⟩ := h4
    show P g X 4 23 [(0, .ref a0), (1, .ref (g.2.2.1 i1)), (2, .int x2), (3, .int x3)] [.int x4_] _ _ (K, len, I4, J4, R)
    have hF4 : Fr K [(11, 8), (11, 9), (11, 10), (11, 11), (11, 12), (11, 13)] I I4 := hF3.trans hf4 rfl rfl
    have hFJ4 : Fr K [(11, 14)] J J4 := hFJ3.trans hfj4 rfl rfl
    exact r_iret hC hQ hlk hr rfl (by decide) (by decide) dX10_readPart_23 ⟨_, _, _, rfl, rfl, ⟨hs4, hF4, hFJ4, (by omega), (by omega), (by omega), (by omega)⟩⟩
  · refine r_aload_n hC dX10_readPart_8 0 rfl ?_
    refine r_iconst hC (v := (1)) dX10_readPart_9 (by decide) (by decide) (fun x5_ e5 t5 => ?_)
    refine r_callV hC (As := [.int x5_]) (rest := []) (ci := 10) (c_X10_wrong g (xL X) K len I J R hs a0 ka0 x5_) mT_5_236 mT_1_10 mT_5_233 mT_5_235 mP_55 okX10_wrong ⟨by decide, by decide⟩ rfl (by show kO (K a0) = _; rw [ka0]; rfl) rfl rfl (Nat.le_of_ble_eq_true rfl) ⟨by decide, by decide⟩ dX10_readPart_10 (aV1 (F := fun st M => P g X 4 13 [(0, .ref a0), (1, .ref (g.2.2.1 i1)), (2, .int x2), (3, .int x3)] st _ _ M) (M := (K, len, I, J, R)) fun I6 h6 => ?_)
    obtain ⟨hs6, hf6, k6_0, k6_1⟩ := h6
    show P g X 4 13 [(0, .ref a0), (1, .ref (g.2.2.1 i1)), (2, .int x2), (3, .int x3)] [] _ _ (K, len, I6, J, R)
    have hF6 : Fr K [(11, 8), (11, 9), (11, 10), (11, 11), (11, 12), (11, 13)] I I6 := hF.trans hf6 rfl rfl
    refine r_aload_n hC dX10_readPart_13 0 rfl ?_
    refine r_callV hC (As := []) (rest := []) (ci := 10) (c_X10_goesOn g (xL X) K len I6 J R hs6 a0 ka0) mT_5_199 mT_1_10 mT_5_196 mT_5_198 mP_49 okX10_goesOn ⟨by decide, by decide⟩ rfl (by show kO (K a0) = _; rw [ka0]; rfl) rfl rfl (Nat.le_of_ble_eq_true rfl) ⟨by decide, by decide⟩ dX10_readPart_14 (aV2 (F := fun st M => P g X 4 17 [(0, .ref a0), (1, .ref (g.2.2.1 i1)), (2, .int x2), (3, .int x3)] st _ _ M) (M := (K, len, I6, J, R)) fun I7 J7 h7 => ?_)
    obtain ⟨hs7, hf7, hfj7, k7_0, k7_1, k7_2, k7_3⟩ := h7
    show P g X 4 17 [(0, .ref a0), (1, .ref (g.2.2.1 i1)), (2, .int x2), (3, .int x3)] [] _ _ (K, len, I7, J7, R)
    have hF7 : Fr K [(11, 8), (11, 9), (11, 10), (11, 11), (11, 12), (11, 13)] I I7 := hF6.trans hf7 rfl rfl
    have hFJ7 : Fr K [(11, 14)] J J7 := hFJ.trans hfj7 rfl rfl
    refine r_aload_n hC dX10_readPart_17 0 rfl ?_
    refine r_iload_n hC dX10_readPart_18 2 rfl ?_
    refine r_iload_n hC dX10_readPart_19 3 rfl ?_
    refine r_callV hC (As := [.int x2, .int x3]) (rest := []) (ci := 10) (c_X10_readWhole g (xL X) K len I7 J7 R hs7 a0 ka0 x2 x3) mT_6_5 mT_1_10 mT_6_2 mT_6_4 mP_57 okX10_readWhole ⟨by decide, by decide⟩ rfl (by show kO (K a0) = _; rw [ka0]; rfl) rfl rfl (Nat.le_of_ble_eq_true rfl) ⟨by decide, by decide⟩ dX10_readPart_20 (aI2 (F := fun st M => P g X 4 23 [(0, .ref a0), (1, .ref (g.2.2.1 i1)), (2, .int x2), (3, .int x3)] st _ _ M) (M := (K, len, I7, J7, R)) fun x8_ I8 J8 h8 => ?_)
    obtain ⟨hs8, hf8, hfj8, k8_0, k8_1, k8_2, k8_3⟩ := h8
    show P g X 4 23 [(0, .ref a0), (1, .ref (g.2.2.1 i1)), (2, .int x2), (3, .int x3)] [.int x8_] _ _ (K, len, I8, J8, R)
    have hF8 : Fr K [(11, 8), (11, 9), (11, 10), (11, 11), (11, 12), (11, 13)] I I8 := hF7.trans hf8 rfl rfl
    have hFJ8 : Fr K [(11, 14)] J J8 := hFJ7.trans hfj8 rfl rfl
    exact r_iret hC hQ hlk hr rfl (by decide) (by decide) dX10_readPart_23 ⟨_, _, _, rfl, rfl, ⟨hs8, hF8, hFJ8, (by omega), (by omega), (by omega), (by omega)⟩⟩
set_option maxHeartbeats 4000000 in
set_option maxRecDepth 100000 in
theorem c_X10_begins (g : GG) (l : Launch) (K len : Nat → Nat) (I : Nat → Nat → Int32) (J : Nat → Nat → Int64) (R : Nat → Nat → Option Nat) (hs : Sf K len I R) (a0 : Nat) (ka0 : K a0 = 11) (x1 : Int32) (x2 : Int32) : Ct g l yX10_begins cX10_begins 3 (Option.none : Option Jvm.ClassFile.FieldType) rmX10_begins [.ref a0, .int x1, .int x2] (K, len, I, J, R) (pV2 (K, len, I, J, R) (fun I' J' => Sf K len I' R ∧ Fr K [(11, 8), (11, 9), (11, 10), (11, 11), (11, 12), (11, 13)] I I' ∧ Fr K [(11, 14)] J J' ∧ ((I a0 9).toInt = 5 → (I' a0 9).toInt = 5) ∧ (x1.toInt = x2.toInt → (I' a0 9).toInt = 5) ∧ ((I a0 8).toInt ≤ (I' a0 8).toInt) ∧ ((I' a0 9).toInt = 4 → (I a0 8).toInt < (I' a0 8).toInt))) := by
  refine Ct_intro (by decide +kernel) (Nat.le_of_ble_eq_true rfl) (fun X hC hL hKK hNm hr hlk hQ => ?_)
  subst hL
  have hC : Cx g X cX10_begins "HillTapModel" 3 rmX10_begins := hC
  show P g X 3 0 [(0, .ref a0), (1, .int x1), (2, .int x2)] [] 0 0 (K, len, I, J, R)
  have hF : Fr K [(11, 8), (11, 9), (11, 10), (11, 11), (11, 12), (11, 13)] I I := Fr.refl
  have hFJ : Fr K [(11, 14)] J J := Fr.refl
  have b_x1 := ti_rng x1
  have b_x2 := ti_rng x2
  refine r_iload_n hC dX10_begins_0 1 rfl ?_
  refine r_iload_n hC dX10_begins_1 2 rfl ?_
  refine r_icmp_ne hC (tgt := 10) dX10_begins_2 (by decide) (fun c1 => ?_) (fun c1 => ?_)
  · refine r_aload_n hC dX10_begins_10 0 rfl ?_
    refine r_callV hC (As := []) (rest := []) (ci := 10) (c_X10_goesOn g (xL X) K len I J R hs a0 ka0) mT_5_199 mT_1_10 mT_5_196 mT_5_198 mP_49 okX10_goesOn ⟨by decide, by decide⟩ rfl (by show kO (K a0) = _; rw [ka0]; rfl) rfl rfl (Nat.le_of_ble_eq_true rfl) ⟨by decide, by decide⟩ dX10_begins_11 (aV2 (F := fun st M => P g X 3 14 [(0, .ref a0), (1, .int x1), (2, .int x2)] st _ _ M) (M := (K, len, I, J, R)) fun I2 J2 h2 => ?_)
    obtain ⟨hs2, hf2, hfj2, k2_0, k2_1, k2_2, k2_3⟩ := h2
    show P g X 3 14 [(0, .ref a0), (1, .int x1), (2, .int x2)] [] _ _ (K, len, I2, J2, R)
    have hF2 : Fr K [(11, 8), (11, 9), (11, 10), (11, 11), (11, 12), (11, 13)] I I2 := hF.trans hf2 rfl rfl
    have hFJ2 : Fr K [(11, 14)] J J2 := hFJ.trans hfj2 rfl rfl
    exact r_vret hC hQ hlk hr (by decide) (by decide) dX10_begins_14 ⟨_, _, rfl, rfl, ⟨hs2, hF2, hFJ2, (by omega), (by omega), (by omega), (by omega)⟩⟩
  · refine r_aload_n hC dX10_begins_5 0 rfl ?_
    refine r_iconst hC (v := (5)) dX10_begins_6 (by decide) (by decide) (fun x3_ e3 t3 => ?_)
    refine r_callV hC (As := [.int x3_]) (rest := []) (ci := 10) (c_X10_wrong g (xL X) K len I J R hs a0 ka0 x3_) mT_5_236 mT_1_10 mT_5_233 mT_5_235 mP_55 okX10_wrong ⟨by decide, by decide⟩ rfl (by show kO (K a0) = _; rw [ka0]; rfl) rfl rfl (Nat.le_of_ble_eq_true rfl) ⟨by decide, by decide⟩ dX10_begins_7 (aV1 (F := fun st M => P g X 3 10 [(0, .ref a0), (1, .int x1), (2, .int x2)] st _ _ M) (M := (K, len, I, J, R)) fun I4 h4 => ?_)
    obtain ⟨hs4, hf4, k4_0, k4_1⟩ := h4
    show P g X 3 10 [(0, .ref a0), (1, .int x1), (2, .int x2)] [] _ _ (K, len, I4, J, R)
    have hF4 : Fr K [(11, 8), (11, 9), (11, 10), (11, 11), (11, 12), (11, 13)] I I4 := hF.trans hf4 rfl rfl
    refine r_aload_n hC dX10_begins_10 0 rfl ?_
    refine r_callV hC (As := []) (rest := []) (ci := 10) (c_X10_goesOn g (xL X) K len I4 J R hs4 a0 ka0) mT_5_199 mT_1_10 mT_5_196 mT_5_198 mP_49 okX10_goesOn ⟨by decide, by decide⟩ rfl (by show kO (K a0) = _; rw [ka0]; rfl) rfl rfl (Nat.le_of_ble_eq_true rfl) ⟨by decide, by decide⟩ dX10_begins_11 (aV2 (F := fun st M => P g X 3 14 [(0, .ref a0), (1, .int x1), (2, .int x2)] st _ _ M) (M := (K, len, I4, J, R)) fun I5 J5 h5 => ?_)
    obtain ⟨hs5, hf5, hfj5, k5_0, k5_1, k5_2, k5_3⟩ := h5
    show P g X 3 14 [(0, .ref a0), (1, .int x1), (2, .int x2)] [] _ _ (K, len, I5, J5, R)
    have hF5 : Fr K [(11, 8), (11, 9), (11, 10), (11, 11), (11, 12), (11, 13)] I I5 := hF4.trans hf5 rfl rfl
    have hFJ5 : Fr K [(11, 14)] J J5 := hFJ.trans hfj5 rfl rfl
    exact r_vret hC hQ hlk hr (by decide) (by decide) dX10_begins_14 ⟨_, _, rfl, rfl, ⟨hs5, hF5, hFJ5, (by omega), (by omega), (by omega), (by omega)⟩⟩
set_option maxHeartbeats 4000000 in
set_option maxRecDepth 100000 in
theorem c_X10_readFresh (g : GG) (l : Launch) (K len : Nat → Nat) (I : Nat → Nat → Int32) (J : Nat → Nat → Int64) (R : Nat → Nat → Option Nat) (hs : Sf K len I R) (a0 : Nat) (ka0 : K a0 = 11) (x1 : Int32) (x2 : Int32) (rm : Nat) (hbr : R a0 4 = some rm) (krm : K rm = 10) (p0 : (I a0 9).toInt = 5 ∨ (I rm 10).toInt ≤ 18) : Ct g l yX10_readFresh cX10_readFresh 3 (Option.none : Option Jvm.ClassFile.FieldType) rmX10_readFresh [.ref a0, .int x1, .int x2] (K, len, I, J, R) (pV2 (K, len, I, J, R) (fun I' J' => Sf K len I' R ∧ Fr K [(10, 10), (11, 8), (11, 9), (11, 10), (11, 11), (11, 12), (11, 13), (83, 999), (84, 999)] I I' ∧ Fr K [(11, 14), (82, 999)] J J' ∧ ((I a0 9).toInt = 5 → (I' a0 9).toInt = 5) ∧ ((I a0 8).toInt ≤ (I' a0 8).toInt) ∧ ((I' a0 9).toInt = 4 → (I a0 8).toInt < (I' a0 8).toInt) ∧ ((I' rm 10).toInt ≤ (I rm 10).toInt + 1))) := by
  refine Ct_intro (by decide +kernel) (Nat.le_of_ble_eq_true rfl) (fun X hC hL hKK hNm hr hlk hQ => ?_)
  subst hL
  have hC : Cx g X cX10_readFresh "HillTapModel" 3 rmX10_readFresh := hC
  show P g X 3 0 [(0, .ref a0), (1, .int x1), (2, .int x2)] [] 0 0 (K, len, I, J, R)
  have hF : Fr K [(10, 10), (11, 8), (11, 9), (11, 10), (11, 11), (11, 12), (11, 13), (83, 999), (84, 999)] I I := Fr.refl
  have hFJ : Fr K [(11, 14), (82, 999)] J J := Fr.refl
  have b_x1 := ti_rng x1
  have b_x2 := ti_rng x2
  obtain ⟨N0, eN0⟩ : ∃ z : Int32, z = I rm 10 := ⟨_, rfl⟩
  have fN0 : N0.toInt = (I rm 10).toInt := by rw [eN0]
  have rN0 := hs.rng krm rfl eN0
  obtain ⟨A0, eA0⟩ : ∃ z : Int32, z = I a0 8 := ⟨_, rfl⟩
  have fA0 : A0.toInt = (I a0 8).toInt := by rw [eA0]
  have rA0 := hs.rng ka0 rfl eA0
  obtain ⟨T0, eT0⟩ : ∃ z : Int32, z = I a0 9 := ⟨_, rfl⟩
  have fT0 : T0.toInt = (I a0 9).toInt := by rw [eT0]
  refine r_aload_n hC dX10_readFresh_0 0 rfl ?_
  refine r_callV hC (As := []) (rest := []) (ci := 10) (c_X10_isName g (xL X) K len I J R hs a0 ka0) mT_6_27 mT_1_10 mT_6_24 mT_6_26 mP_61 okX10_isName ⟨by decide, by decide⟩ rfl (by show kO (K a0) = _; rw [ka0]; rfl) rfl rfl (Nat.le_of_ble_eq_true rfl) ⟨by decide, by decide⟩ dX10_readFresh_1 (aI0 (F := fun st M => P g X 3 4 [(0, .ref a0), (1, .int x1), (2, .int x2)] st _ _ M) (M := (K, len, I, J, R)) fun x1_ h1 => ?_)
  obtain ⟨k1_0, k1_1, k1_2⟩ := h1
  show P g X 3 4 [(0, .ref a0), (1, .int x1), (2, .int x2)] [.int x1_] _ _ (K, len, I, J, R)
  refine r_if_ne hC (tgt := 12) dX10_readFresh_4 (by decide) (fun c2 => ?_) (fun c2 => ?_)
  · refine r_aload_n hC dX10_readFresh_12 0 rfl ?_
    refine r_getr hC 4 (ci := 10) rfl u10_in (by decide) mT_4_239 dX10_readFresh_13 ka0 rfl rfl hbr ?_
    refine r_aload_n hC dX10_readFresh_16 0 rfl ?_
    refine r_getj hC 14 (ci := 10) rfl u10_in (by decide) mT_5_9 dX10_readFresh_17 ka0 rfl rfl (fun y3_ e3 => ?_)
    refine r_callV hC (As := [.long y3_]) (rest := []) (ci := 9) (c_X9_find g (xL X) K len I J R hs rm krm y3_) mT_6_36 mT_1_17 mT_6_33 mT_6_34 mT_6_35 okX9_find ⟨by decide, by decide⟩ rfl (by show kO (K rm) = _; rw [krm]; rfl) rfl rfl (Nat.le_of_ble_eq_true rfl) ⟨by decide, by decide⟩ dX10_readFresh_20 (aI0 (F := fun st M => P g X 3 23 [(0, .ref a0), (1, .int x1), (2, .int x2)] st _ _ M) (M := (K, len, I, J, R)) fun x4_ h4 => ?_)
    obtain ⟨k4_0, k4_1⟩ := h4
    show P g X 3 23 [(0, .ref a0), (1, .int x1), (2, .int x2)] [.int x4_] _ _ (K, len, I, J, R)
    refine r_iconst hC (v := (-1)) dX10_readFresh_23 (by decide) (by decide) (fun x5_ e5 t5 => ?_)
    refine r_icmp_eq hC (tgt := 32) dX10_readFresh_24 (by decide) (fun c6 => ?_) (fun c6 => ?_)
    · refine r_aload_n hC dX10_readFresh_32 0 rfl ?_
      refine r_geti hC 9 (ci := 10) rfl u10_in (by decide) mT_5_4 dX10_readFresh_33 ka0 rfl rfl (fun x7_ e7 => ?_)
      have f7 : x7_.toInt = (I a0 9).toInt := by rw [e7]
      have w7 : x7_ = T0 := by rw [e7]; exact eT0.symm
      have wt7 : x7_.toInt = T0.toInt := by rw [w7]
      refine r_iconst hC (v := (5)) dX10_readFresh_36 (by decide) (by decide) (fun x8_ e8 t8 => ?_)
      refine r_icmp_ne hC (tgt := 41) dX10_readFresh_37 (by decide) (fun c9 => ?_) (fun c9 => ?_)
      · refine r_aload_n hC dX10_readFresh_41 0 rfl ?_
        refine r_getr hC 4 (ci := 10) rfl u10_in (by decide) mT_4_239 dX10_readFresh_42 ka0 rfl rfl hbr ?_
        obtain ⟨a10_, hb10, hk10, hn10⟩ := hs.row krm 25 82 19 (by decide) (by decide)
        refine r_getrN hC 25 (ci := 9) rfl u9_in (by decide) nF_25 dX10_readFresh_45 krm rfl rfl hb10 ?_
        refine r_aload_n hC dX10_readFresh_48 0 rfl ?_
        refine r_getr hC 4 (ci := 10) rfl u10_in (by decide) mT_4_239 dX10_readFresh_49 ka0 rfl rfl hbr ?_
        refine r_getiN hC 10 (ci := 9) rfl u9_in (by decide) nF_10 dX10_readFresh_52 krm rfl rfl (fun x11_ e11 => ?_)
        have r11 := hs.rng krm rfl e11
        have f11 : x11_.toInt = (I rm 10).toInt := by rw [e11]
        have w11 : x11_ = N0 := by rw [e11]; exact eN0.symm
        have wt11 : x11_.toInt = N0.toInt := by rw [w11]
        refine r_aload_n hC dX10_readFresh_55 0 rfl ?_
        refine r_getj hC 14 (ci := 10) rfl u10_in (by decide) mT_5_9 dX10_readFresh_56 ka0 rfl rfl (fun y12_ e12 => ?_)
        refine x_lastore hC hk10 hn10 (by decide) rfl rfl dX10_readFresh_59 (by omega) (by omega) (fun J13 eJ13 => ?_)
        have hFJ13 := hFJ.put eJ13 hk10 (inS_arr rfl _)
        refine r_aload_n hC dX10_readFresh_60 0 rfl ?_
        refine r_getr hC 4 (ci := 10) rfl u10_in (by decide) mT_4_239 dX10_readFresh_61 ka0 rfl rfl hbr ?_
        obtain ⟨a14_, hb14, hk14, hn14⟩ := hs.row krm 26 83 19 (by decide) (by decide)
        refine r_getrN hC 26 (ci := 9) rfl u9_in (by decide) nF_26 dX10_readFresh_64 krm rfl rfl hb14 ?_
        refine r_aload_n hC dX10_readFresh_67 0 rfl ?_
        refine r_getr hC 4 (ci := 10) rfl u10_in (by decide) mT_4_239 dX10_readFresh_68 ka0 rfl rfl hbr ?_
        refine r_getiN hC 10 (ci := 9) rfl u9_in (by decide) nF_10 dX10_readFresh_71 krm rfl rfl (fun x15_ e15 => ?_)
        have r15 := hs.rng krm rfl e15
        have f15 : x15_.toInt = (I rm 10).toInt := by rw [e15]
        have w15 : x15_ = x11_ := by rw [e15]; exact e11.symm
        have wt15 : x15_.toInt = x11_.toInt := by rw [w15]
        refine r_iload_n hC dX10_readFresh_74 1 rfl ?_
        refine x_iastore hC hk14 hn14 (by decide) rfl rfl dX10_readFresh_75 (by omega) (by omega) (fun I16 eI16 => ?_)
        have hs16 := hs.put0 eI16 hk14 (rng_arr (by decide) _) rfl (xF_arr (by decide) _) (by decide)
        have hF16 := hF.put eI16 hk14 (inS_arr rfl _)
        refine r_aload_n hC dX10_readFresh_76 0 rfl ?_
        refine r_getr hC 4 (ci := 10) rfl u10_in (by decide) mT_4_239 dX10_readFresh_77 ka0 rfl rfl hbr ?_
        obtain ⟨a17_, hb17, hk17, hn17⟩ := hs16.row krm 27 84 19 (by decide) (by decide)
        refine r_getrN hC 27 (ci := 9) rfl u9_in (by decide) nF_27 dX10_readFresh_80 krm rfl rfl hb17 ?_
        refine r_aload_n hC dX10_readFresh_83 0 rfl ?_
        refine r_getr hC 4 (ci := 10) rfl u10_in (by decide) mT_4_239 dX10_readFresh_84 ka0 rfl rfl hbr ?_
        refine r_getiN hC 10 (ci := 9) rfl u9_in (by decide) nF_10 dX10_readFresh_87 krm rfl rfl (fun x18_ e18 => ?_)
        have r18 := hs16.rng krm rfl e18
        have f18 : x18_.toInt = (I16 rm 10).toInt := by rw [e18]
        have w18 : x18_ = x15_ := by rw [e18]; exact (Eq.trans (up2_kk eI16 hk14 krm (by decide)) e15.symm)
        have wt18 : x18_.toInt = x15_.toInt := by rw [w18]
        refine r_iload_n hC dX10_readFresh_90 2 rfl ?_
        refine x_iastore hC hk17 hn17 (by decide) rfl rfl dX10_readFresh_91 (by omega) (by omega) (fun I19 eI19 => ?_)
        have hs19 := hs16.put0 eI19 hk17 (rng_arr (by decide) _) rfl (xF_arr (by decide) _) (by decide)
        have hF19 := hF16.put eI19 hk17 (inS_arr rfl _)
        refine r_aload_n hC dX10_readFresh_92 0 rfl ?_
        refine r_getr hC 4 (ci := 10) rfl u10_in (by decide) mT_4_239 dX10_readFresh_93 ka0 rfl rfl hbr ?_
        refine r_dup hC dX10_readFresh_96 rfl ?_
        refine r_getiN hC 10 (ci := 9) rfl u9_in (by decide) nF_10 dX10_readFresh_97 krm rfl rfl (fun x20_ e20 => ?_)
        have r20 := hs19.rng krm rfl e20
        have f20 : x20_.toInt = (I19 rm 10).toInt := by rw [e20]
        have w20 : x20_ = x18_ := by rw [e20]; exact (Eq.trans (up2_kk eI19 hk17 krm (by decide)) e18.symm)
        have wt20 : x20_.toInt = x18_.toInt := by rw [w20]
        refine r_iconst hC (v := (1)) dX10_readFresh_100 (by decide) (by decide) (fun x21_ e21 t21 => ?_)
        refine r_iadd hC dX10_readFresh_101 (fun x22_ e22 => ?_)
        try have t22 : x22_.toInt = x20_.toInt + x21_.toInt := by rw [e22]; exact ti_add (by omega) (by omega)
        refine r_putiN hC 10 (ci := 9) rfl u9_in tyX9_ok nmX9 (by decide) nF_10 rfl rfl rfl dX10_readFresh_102 krm rfl rfl (fun I23 eI23 => ?_)
        have hs23 := hs19.put1 eI23 krm rfl (by omega) (by omega) rfl rfl (by decide)
        have hF23 := hF19.put eI23 krm rfl
        refine r_aload_n hC dX10_readFresh_105 0 rfl ?_
        have ha8 : I23 a0 8 = A0 := (Eq.trans (up2_kk eI23 krm ka0 (by decide)) (Eq.trans (up2_kk eI19 hk17 ka0 (by decide)) (Eq.trans (up2_kk eI16 hk14 ka0 (by decide)) eA0.symm)))
        have ha8t : (I23 a0 8).toInt = A0.toInt := congrArg Int32.toInt ha8
        have ha9 : I23 a0 9 = x7_ := (Eq.trans (up2_kk eI23 krm ka0 (by decide)) (Eq.trans (up2_kk eI19 hk17 ka0 (by decide)) (Eq.trans (up2_kk eI16 hk14 ka0 (by decide)) e7.symm)))
        have ha9t : (I23 a0 9).toInt = x7_.toInt := congrArg Int32.toInt ha9
        have haN : I23 rm 10 = x22_ := (by rw [eI23]; exact up2_self _ _ _ _)
        have haNt : (I23 rm 10).toInt = x22_.toInt := congrArg Int32.toInt haN
        refine r_callV hC (As := []) (rest := []) (ci := 10) (c_X10_goesOn g (xL X) K len I23 J13 R hs23 a0 ka0) mT_5_199 mT_1_10 mT_5_196 mT_5_198 mP_49 okX10_goesOn ⟨by decide, by decide⟩ rfl (by show kO (K a0) = _; rw [ka0]; rfl) rfl rfl (Nat.le_of_ble_eq_true rfl) ⟨by decide, by decide⟩ dX10_readFresh_106 (aV2 (F := fun st M => P g X 3 109 [(0, .ref a0), (1, .int x1), (2, .int x2)] st _ _ M) (M := (K, len, I23, J13, R)) fun I24 J24 h24 => ?_)
        obtain ⟨hs24, hf24, hfj24, k24_0, k24_1, k24_2, k24_3⟩ := h24
        show P g X 3 109 [(0, .ref a0), (1, .int x1), (2, .int x2)] [] _ _ (K, len, I24, J24, R)
        have hF24 : Fr K [(10, 10), (11, 8), (11, 9), (11, 10), (11, 11), (11, 12), (11, 13), (83, 999), (84, 999)] I I24 := hF23.trans hf24 rfl rfl
        have hFJ24 : Fr K [(11, 14), (82, 999)] J J24 := hFJ13.trans hfj24 rfl rfl
        have hvN : I24 rm 10 = x22_ := (Eq.trans (hf24.get krm rfl) (by rw [eI23]; exact up2_self _ _ _ _))
        have hvNt : (I24 rm 10).toInt = x22_.toInt := congrArg Int32.toInt hvN
        exact r_vret hC hQ hlk hr (by decide) (by decide) dX10_readFresh_109 ⟨_, _, rfl, rfl, ⟨hs24, hF24, hFJ24, (by omega), (by omega), (by omega), (by omega)⟩⟩
      · have hvN : I rm 10 = N0 := eN0.symm
        have hvNt : (I rm 10).toInt = N0.toInt := congrArg Int32.toInt hvN
        have hv8 : I a0 8 = A0 := eA0.symm
        have hv8t : (I a0 8).toInt = A0.toInt := congrArg Int32.toInt hv8
        have hv9 : I a0 9 = x7_ := e7.symm
        have hv9t : (I a0 9).toInt = x7_.toInt := congrArg Int32.toInt hv9
        exact r_vret hC hQ hlk hr (by decide) (by decide) dX10_readFresh_40 ⟨_, _, rfl, rfl, ⟨hs, hF, hFJ, (by omega), (by omega), (by omega), (by omega)⟩⟩
    · refine r_aload_n hC dX10_readFresh_27 0 rfl ?_
      refine r_iconst hC (v := (3)) dX10_readFresh_28 (by decide) (by decide) (fun x25_ e25 t25 => ?_)
      refine r_callV hC (As := [.int x25_]) (rest := []) (ci := 10) (c_X10_wrong g (xL X) K len I J R hs a0 ka0 x25_) mT_5_236 mT_1_10 mT_5_233 mT_5_235 mP_55 okX10_wrong ⟨by decide, by decide⟩ rfl (by show kO (K a0) = _; rw [ka0]; rfl) rfl rfl (Nat.le_of_ble_eq_true rfl) ⟨by decide, by decide⟩ dX10_readFresh_29 (aV1 (F := fun st M => P g X 3 32 [(0, .ref a0), (1, .int x1), (2, .int x2)] st _ _ M) (M := (K, len, I, J, R)) fun I26 h26 => ?_)
      obtain ⟨hs26, hf26, k26_0, k26_1⟩ := h26
      show P g X 3 32 [(0, .ref a0), (1, .int x1), (2, .int x2)] [] _ _ (K, len, I26, J, R)
      have hF26 : Fr K [(10, 10), (11, 8), (11, 9), (11, 10), (11, 11), (11, 12), (11, 13), (83, 999), (84, 999)] I I26 := hF.trans hf26 rfl rfl
      refine r_aload_n hC dX10_readFresh_32 0 rfl ?_
      refine r_geti hC 9 (ci := 10) rfl u10_in (by decide) mT_5_4 dX10_readFresh_33 ka0 rfl rfl (fun x27_ e27 => ?_)
      have f27 : x27_.toInt = (I26 a0 9).toInt := by rw [e27]
      refine r_iconst hC (v := (5)) dX10_readFresh_36 (by decide) (by decide) (fun x28_ e28 t28 => ?_)
      refine r_icmp_ne hC (tgt := 41) dX10_readFresh_37 (by decide) (fun c29 => ?_) (fun c29 => ?_)
      · refine r_aload_n hC dX10_readFresh_41 0 rfl ?_
        refine r_getr hC 4 (ci := 10) rfl u10_in (by decide) mT_4_239 dX10_readFresh_42 ka0 rfl rfl hbr ?_
        obtain ⟨a30_, hb30, hk30, hn30⟩ := hs26.row krm 25 82 19 (by decide) (by decide)
        refine r_getrN hC 25 (ci := 9) rfl u9_in (by decide) nF_25 dX10_readFresh_45 krm rfl rfl hb30 ?_
        refine r_aload_n hC dX10_readFresh_48 0 rfl ?_
        refine r_getr hC 4 (ci := 10) rfl u10_in (by decide) mT_4_239 dX10_readFresh_49 ka0 rfl rfl hbr ?_
        refine r_getiN hC 10 (ci := 9) rfl u9_in (by decide) nF_10 dX10_readFresh_52 krm rfl rfl (fun x31_ e31 => ?_)
        have r31 := hs26.rng krm rfl e31
        have f31 : x31_.toInt = (I26 rm 10).toInt := by rw [e31]
        have w31 : x31_ = N0 := by rw [e31]; exact (Eq.trans (hf26.get krm rfl) eN0.symm)
        have wt31 : x31_.toInt = N0.toInt := by rw [w31]
        refine r_aload_n hC dX10_readFresh_55 0 rfl ?_
        refine r_getj hC 14 (ci := 10) rfl u10_in (by decide) mT_5_9 dX10_readFresh_56 ka0 rfl rfl (fun y32_ e32 => ?_)
        refine x_lastore hC hk30 hn30 (by decide) rfl rfl dX10_readFresh_59 (by omega) (by omega) (fun J33 eJ33 => ?_)
        have hFJ33 := hFJ.put eJ33 hk30 (inS_arr rfl _)
        refine r_aload_n hC dX10_readFresh_60 0 rfl ?_
        refine r_getr hC 4 (ci := 10) rfl u10_in (by decide) mT_4_239 dX10_readFresh_61 ka0 rfl rfl hbr ?_
        obtain ⟨a34_, hb34, hk34, hn34⟩ := hs26.row krm 26 83 19 (by decide) (by decide)
        refine r_getrN hC 26 (ci := 9) rfl u9_in (by decide) nF_26 dX10_readFresh_64 krm rfl rfl hb34 ?_
        refine r_aload_n hC dX10_readFresh_67 0 rfl ?_
        refine r_getr hC 4 (ci := 10) rfl u10_in (by decide) mT_4_239 dX10_readFresh_68 ka0 rfl rfl hbr ?_
        refine r_getiN hC 10 (ci := 9) rfl u9_in (by decide) nF_10 dX10_readFresh_71 krm rfl rfl (fun x35_ e35 => ?_)
        have r35 := hs26.rng krm rfl e35
        have f35 : x35_.toInt = (I26 rm 10).toInt := by rw [e35]
        have w35 : x35_ = x31_ := by rw [e35]; exact e31.symm
        have wt35 : x35_.toInt = x31_.toInt := by rw [w35]
        refine r_iload_n hC dX10_readFresh_74 1 rfl ?_
        refine x_iastore hC hk34 hn34 (by decide) rfl rfl dX10_readFresh_75 (by omega) (by omega) (fun I36 eI36 => ?_)
        have hs36 := hs26.put0 eI36 hk34 (rng_arr (by decide) _) rfl (xF_arr (by decide) _) (by decide)
        have hF36 := hF26.put eI36 hk34 (inS_arr rfl _)
        refine r_aload_n hC dX10_readFresh_76 0 rfl ?_
        refine r_getr hC 4 (ci := 10) rfl u10_in (by decide) mT_4_239 dX10_readFresh_77 ka0 rfl rfl hbr ?_
        obtain ⟨a37_, hb37, hk37, hn37⟩ := hs36.row krm 27 84 19 (by decide) (by decide)
        refine r_getrN hC 27 (ci := 9) rfl u9_in (by decide) nF_27 dX10_readFresh_80 krm rfl rfl hb37 ?_
        refine r_aload_n hC dX10_readFresh_83 0 rfl ?_
        refine r_getr hC 4 (ci := 10) rfl u10_in (by decide) mT_4_239 dX10_readFresh_84 ka0 rfl rfl hbr ?_
        refine r_getiN hC 10 (ci := 9) rfl u9_in (by decide) nF_10 dX10_readFresh_87 krm rfl rfl (fun x38_ e38 => ?_)
        have r38 := hs36.rng krm rfl e38
        have f38 : x38_.toInt = (I36 rm 10).toInt := by rw [e38]
        have w38 : x38_ = x35_ := by rw [e38]; exact (Eq.trans (up2_kk eI36 hk34 krm (by decide)) e35.symm)
        have wt38 : x38_.toInt = x35_.toInt := by rw [w38]
        refine r_iload_n hC dX10_readFresh_90 2 rfl ?_
        refine x_iastore hC hk37 hn37 (by decide) rfl rfl dX10_readFresh_91 (by omega) (by omega) (fun I39 eI39 => ?_)
        have hs39 := hs36.put0 eI39 hk37 (rng_arr (by decide) _) rfl (xF_arr (by decide) _) (by decide)
        have hF39 := hF36.put eI39 hk37 (inS_arr rfl _)
        refine r_aload_n hC dX10_readFresh_92 0 rfl ?_
        refine r_getr hC 4 (ci := 10) rfl u10_in (by decide) mT_4_239 dX10_readFresh_93 ka0 rfl rfl hbr ?_
        refine r_dup hC dX10_readFresh_96 rfl ?_
        refine r_getiN hC 10 (ci := 9) rfl u9_in (by decide) nF_10 dX10_readFresh_97 krm rfl rfl (fun x40_ e40 => ?_)
        have r40 := hs39.rng krm rfl e40
        have f40 : x40_.toInt = (I39 rm 10).toInt := by rw [e40]
        have w40 : x40_ = x38_ := by rw [e40]; exact (Eq.trans (up2_kk eI39 hk37 krm (by decide)) e38.symm)
        have wt40 : x40_.toInt = x38_.toInt := by rw [w40]
        refine r_iconst hC (v := (1)) dX10_readFresh_100 (by decide) (by decide) (fun x41_ e41 t41 => ?_)
        refine r_iadd hC dX10_readFresh_101 (fun x42_ e42 => ?_)
        try have t42 : x42_.toInt = x40_.toInt + x41_.toInt := by rw [e42]; exact ti_add (by omega) (by omega)
        refine r_putiN hC 10 (ci := 9) rfl u9_in tyX9_ok nmX9 (by decide) nF_10 rfl rfl rfl dX10_readFresh_102 krm rfl rfl (fun I43 eI43 => ?_)
        have hs43 := hs39.put1 eI43 krm rfl (by omega) (by omega) rfl rfl (by decide)
        have hF43 := hF39.put eI43 krm rfl
        refine r_aload_n hC dX10_readFresh_105 0 rfl ?_
        have ha8 : I43 a0 8 = A0 := (Eq.trans (up2_kk eI43 krm ka0 (by decide)) (Eq.trans (up2_kk eI39 hk37 ka0 (by decide)) (Eq.trans (up2_kk eI36 hk34 ka0 (by decide)) (Eq.trans (hf26.get ka0 rfl) eA0.symm))))
        have ha8t : (I43 a0 8).toInt = A0.toInt := congrArg Int32.toInt ha8
        have ha9 : I43 a0 9 = x27_ := (Eq.trans (up2_kk eI43 krm ka0 (by decide)) (Eq.trans (up2_kk eI39 hk37 ka0 (by decide)) (Eq.trans (up2_kk eI36 hk34 ka0 (by decide)) e27.symm)))
        have ha9t : (I43 a0 9).toInt = x27_.toInt := congrArg Int32.toInt ha9
        have haN : I43 rm 10 = x42_ := (by rw [eI43]; exact up2_self _ _ _ _)
        have haNt : (I43 rm 10).toInt = x42_.toInt := congrArg Int32.toInt haN
        refine r_callV hC (As := []) (rest := []) (ci := 10) (c_X10_goesOn g (xL X) K len I43 J33 R hs43 a0 ka0) mT_5_199 mT_1_10 mT_5_196 mT_5_198 mP_49 okX10_goesOn ⟨by decide, by decide⟩ rfl (by show kO (K a0) = _; rw [ka0]; rfl) rfl rfl (Nat.le_of_ble_eq_true rfl) ⟨by decide, by decide⟩ dX10_readFresh_106 (aV2 (F := fun st M => P g X 3 109 [(0, .ref a0), (1, .int x1), (2, .int x2)] st _ _ M) (M := (K, len, I43, J33, R)) fun I44 J44 h44 => ?_)
        obtain ⟨hs44, hf44, hfj44, k44_0, k44_1, k44_2, k44_3⟩ := h44
        show P g X 3 109 [(0, .ref a0), (1, .int x1), (2, .int x2)] [] _ _ (K, len, I44, J44, R)
        have hF44 : Fr K [(10, 10), (11, 8), (11, 9), (11, 10), (11, 11), (11, 12), (11, 13), (83, 999), (84, 999)] I I44 := hF43.trans hf44 rfl rfl
        have hFJ44 : Fr K [(11, 14), (82, 999)] J J44 := hFJ33.trans hfj44 rfl rfl
        have hvN : I44 rm 10 = x42_ := (Eq.trans (hf44.get krm rfl) (by rw [eI43]; exact up2_self _ _ _ _))
        have hvNt : (I44 rm 10).toInt = x42_.toInt := congrArg Int32.toInt hvN
        exact r_vret hC hQ hlk hr (by decide) (by decide) dX10_readFresh_109 ⟨_, _, rfl, rfl, ⟨hs44, hF44, hFJ44, (by omega), (by omega), (by omega), (by omega)⟩⟩
      · have hvN : I26 rm 10 = N0 := (Eq.trans (hf26.get krm rfl) eN0.symm)
        have hvNt : (I26 rm 10).toInt = N0.toInt := congrArg Int32.toInt hvN
        have hv8 : I26 a0 8 = A0 := (Eq.trans (hf26.get ka0 rfl) eA0.symm)
        have hv8t : (I26 a0 8).toInt = A0.toInt := congrArg Int32.toInt hv8
        have hv9 : I26 a0 9 = x27_ := e27.symm
        have hv9t : (I26 a0 9).toInt = x27_.toInt := congrArg Int32.toInt hv9
        exact r_vret hC hQ hlk hr (by decide) (by decide) dX10_readFresh_40 ⟨_, _, rfl, rfl, ⟨hs26, hF26, hFJ, (by omega), (by omega), (by omega), (by omega)⟩⟩
  · refine r_aload_n hC dX10_readFresh_7 0 rfl ?_
    refine r_iconst hC (v := (1)) dX10_readFresh_8 (by decide) (by decide) (fun x45_ e45 t45 => ?_)
    refine r_callV hC (As := [.int x45_]) (rest := []) (ci := 10) (c_X10_wrong g (xL X) K len I J R hs a0 ka0 x45_) mT_5_236 mT_1_10 mT_5_233 mT_5_235 mP_55 okX10_wrong ⟨by decide, by decide⟩ rfl (by show kO (K a0) = _; rw [ka0]; rfl) rfl rfl (Nat.le_of_ble_eq_true rfl) ⟨by decide, by decide⟩ dX10_readFresh_9 (aV1 (F := fun st M => P g X 3 12 [(0, .ref a0), (1, .int x1), (2, .int x2)] st _ _ M) (M := (K, len, I, J, R)) fun I46 h46 => ?_)
    obtain ⟨hs46, hf46, k46_0, k46_1⟩ := h46
    show P g X 3 12 [(0, .ref a0), (1, .int x1), (2, .int x2)] [] _ _ (K, len, I46, J, R)
    have hF46 : Fr K [(10, 10), (11, 8), (11, 9), (11, 10), (11, 11), (11, 12), (11, 13), (83, 999), (84, 999)] I I46 := hF.trans hf46 rfl rfl
    refine r_aload_n hC dX10_readFresh_12 0 rfl ?_
    refine r_getr hC 4 (ci := 10) rfl u10_in (by decide) mT_4_239 dX10_readFresh_13 ka0 rfl rfl hbr ?_
    refine r_aload_n hC dX10_readFresh_16 0 rfl ?_
    refine r_getj hC 14 (ci := 10) rfl u10_in (by decide) mT_5_9 dX10_readFresh_17 ka0 rfl rfl (fun y47_ e47 => ?_)
    refine r_callV hC (As := [.long y47_]) (rest := []) (ci := 9) (c_X9_find g (xL X) K len I46 J R hs46 rm krm y47_) mT_6_36 mT_1_17 mT_6_33 mT_6_34 mT_6_35 okX9_find ⟨by decide, by decide⟩ rfl (by show kO (K rm) = _; rw [krm]; rfl) rfl rfl (Nat.le_of_ble_eq_true rfl) ⟨by decide, by decide⟩ dX10_readFresh_20 (aI0 (F := fun st M => P g X 3 23 [(0, .ref a0), (1, .int x1), (2, .int x2)] st _ _ M) (M := (K, len, I46, J, R)) fun x48_ h48 => ?_)
    obtain ⟨k48_0, k48_1⟩ := h48
    show P g X 3 23 [(0, .ref a0), (1, .int x1), (2, .int x2)] [.int x48_] _ _ (K, len, I46, J, R)
    refine r_iconst hC (v := (-1)) dX10_readFresh_23 (by decide) (by decide) (fun x49_ e49 t49 => ?_)
    refine r_icmp_eq hC (tgt := 32) dX10_readFresh_24 (by decide) (fun c50 => ?_) (fun c50 => ?_)
    · refine r_aload_n hC dX10_readFresh_32 0 rfl ?_
      refine r_geti hC 9 (ci := 10) rfl u10_in (by decide) mT_5_4 dX10_readFresh_33 ka0 rfl rfl (fun x51_ e51 => ?_)
      have f51 : x51_.toInt = (I46 a0 9).toInt := by rw [e51]
      refine r_iconst hC (v := (5)) dX10_readFresh_36 (by decide) (by decide) (fun x52_ e52 t52 => ?_)
      refine r_icmp_ne hC (tgt := 41) dX10_readFresh_37 (by decide) (fun c53 => ?_) (fun c53 => ?_)
      · refine r_aload_n hC dX10_readFresh_41 0 rfl ?_
        refine r_getr hC 4 (ci := 10) rfl u10_in (by decide) mT_4_239 dX10_readFresh_42 ka0 rfl rfl hbr ?_
        obtain ⟨a54_, hb54, hk54, hn54⟩ := hs46.row krm 25 82 19 (by decide) (by decide)
        refine r_getrN hC 25 (ci := 9) rfl u9_in (by decide) nF_25 dX10_readFresh_45 krm rfl rfl hb54 ?_
        refine r_aload_n hC dX10_readFresh_48 0 rfl ?_
        refine r_getr hC 4 (ci := 10) rfl u10_in (by decide) mT_4_239 dX10_readFresh_49 ka0 rfl rfl hbr ?_
        refine r_getiN hC 10 (ci := 9) rfl u9_in (by decide) nF_10 dX10_readFresh_52 krm rfl rfl (fun x55_ e55 => ?_)
        have r55 := hs46.rng krm rfl e55
        have f55 : x55_.toInt = (I46 rm 10).toInt := by rw [e55]
        have w55 : x55_ = N0 := by rw [e55]; exact (Eq.trans (hf46.get krm rfl) eN0.symm)
        have wt55 : x55_.toInt = N0.toInt := by rw [w55]
        refine r_aload_n hC dX10_readFresh_55 0 rfl ?_
        refine r_getj hC 14 (ci := 10) rfl u10_in (by decide) mT_5_9 dX10_readFresh_56 ka0 rfl rfl (fun y56_ e56 => ?_)
        refine x_lastore hC hk54 hn54 (by decide) rfl rfl dX10_readFresh_59 (by omega) (by omega) (fun J57 eJ57 => ?_)
        have hFJ57 := hFJ.put eJ57 hk54 (inS_arr rfl _)
        refine r_aload_n hC dX10_readFresh_60 0 rfl ?_
        refine r_getr hC 4 (ci := 10) rfl u10_in (by decide) mT_4_239 dX10_readFresh_61 ka0 rfl rfl hbr ?_
        obtain ⟨a58_, hb58, hk58, hn58⟩ := hs46.row krm 26 83 19 (by decide) (by decide)
        refine r_getrN hC 26 (ci := 9) rfl u9_in (by decide) nF_26 dX10_readFresh_64 krm rfl rfl hb58 ?_
        refine r_aload_n hC dX10_readFresh_67 0 rfl ?_
        refine r_getr hC 4 (ci := 10) rfl u10_in (by decide) mT_4_239 dX10_readFresh_68 ka0 rfl rfl hbr ?_
        refine r_getiN hC 10 (ci := 9) rfl u9_in (by decide) nF_10 dX10_readFresh_71 krm rfl rfl (fun x59_ e59 => ?_)
        have r59 := hs46.rng krm rfl e59
        have f59 : x59_.toInt = (I46 rm 10).toInt := by rw [e59]
        have w59 : x59_ = x55_ := by rw [e59]; exact e55.symm
        have wt59 : x59_.toInt = x55_.toInt := by rw [w59]
        refine r_iload_n hC dX10_readFresh_74 1 rfl ?_
        refine x_iastore hC hk58 hn58 (by decide) rfl rfl dX10_readFresh_75 (by omega) (by omega) (fun I60 eI60 => ?_)
        have hs60 := hs46.put0 eI60 hk58 (rng_arr (by decide) _) rfl (xF_arr (by decide) _) (by decide)
        have hF60 := hF46.put eI60 hk58 (inS_arr rfl _)
        refine r_aload_n hC dX10_readFresh_76 0 rfl ?_
        refine r_getr hC 4 (ci := 10) rfl u10_in (by decide) mT_4_239 dX10_readFresh_77 ka0 rfl rfl hbr ?_
        obtain ⟨a61_, hb61, hk61, hn61⟩ := hs60.row krm 27 84 19 (by decide) (by decide)
        refine r_getrN hC 27 (ci := 9) rfl u9_in (by decide) nF_27 dX10_readFresh_80 krm rfl rfl hb61 ?_
        refine r_aload_n hC dX10_readFresh_83 0 rfl ?_
        refine r_getr hC 4 (ci := 10) rfl u10_in (by decide) mT_4_239 dX10_readFresh_84 ka0 rfl rfl hbr ?_
        refine r_getiN hC 10 (ci := 9) rfl u9_in (by decide) nF_10 dX10_readFresh_87 krm rfl rfl (fun x62_ e62 => ?_)
        have r62 := hs60.rng krm rfl e62
        have f62 : x62_.toInt = (I60 rm 10).toInt := by rw [e62]
        have w62 : x62_ = x59_ := by rw [e62]; exact (Eq.trans (up2_kk eI60 hk58 krm (by decide)) e59.symm)
        have wt62 : x62_.toInt = x59_.toInt := by rw [w62]
        refine r_iload_n hC dX10_readFresh_90 2 rfl ?_
        refine x_iastore hC hk61 hn61 (by decide) rfl rfl dX10_readFresh_91 (by omega) (by omega) (fun I63 eI63 => ?_)
        have hs63 := hs60.put0 eI63 hk61 (rng_arr (by decide) _) rfl (xF_arr (by decide) _) (by decide)
        have hF63 := hF60.put eI63 hk61 (inS_arr rfl _)
        refine r_aload_n hC dX10_readFresh_92 0 rfl ?_
        refine r_getr hC 4 (ci := 10) rfl u10_in (by decide) mT_4_239 dX10_readFresh_93 ka0 rfl rfl hbr ?_
        refine r_dup hC dX10_readFresh_96 rfl ?_
        refine r_getiN hC 10 (ci := 9) rfl u9_in (by decide) nF_10 dX10_readFresh_97 krm rfl rfl (fun x64_ e64 => ?_)
        have r64 := hs63.rng krm rfl e64
        have f64 : x64_.toInt = (I63 rm 10).toInt := by rw [e64]
        have w64 : x64_ = x62_ := by rw [e64]; exact (Eq.trans (up2_kk eI63 hk61 krm (by decide)) e62.symm)
        have wt64 : x64_.toInt = x62_.toInt := by rw [w64]
        refine r_iconst hC (v := (1)) dX10_readFresh_100 (by decide) (by decide) (fun x65_ e65 t65 => ?_)
        refine r_iadd hC dX10_readFresh_101 (fun x66_ e66 => ?_)
        try have t66 : x66_.toInt = x64_.toInt + x65_.toInt := by rw [e66]; exact ti_add (by omega) (by omega)
        refine r_putiN hC 10 (ci := 9) rfl u9_in tyX9_ok nmX9 (by decide) nF_10 rfl rfl rfl dX10_readFresh_102 krm rfl rfl (fun I67 eI67 => ?_)
        have hs67 := hs63.put1 eI67 krm rfl (by omega) (by omega) rfl rfl (by decide)
        have hF67 := hF63.put eI67 krm rfl
        refine r_aload_n hC dX10_readFresh_105 0 rfl ?_
        have ha8 : I67 a0 8 = A0 := (Eq.trans (up2_kk eI67 krm ka0 (by decide)) (Eq.trans (up2_kk eI63 hk61 ka0 (by decide)) (Eq.trans (up2_kk eI60 hk58 ka0 (by decide)) (Eq.trans (hf46.get ka0 rfl) eA0.symm))))
        have ha8t : (I67 a0 8).toInt = A0.toInt := congrArg Int32.toInt ha8
        have ha9 : I67 a0 9 = x51_ := (Eq.trans (up2_kk eI67 krm ka0 (by decide)) (Eq.trans (up2_kk eI63 hk61 ka0 (by decide)) (Eq.trans (up2_kk eI60 hk58 ka0 (by decide)) e51.symm)))
        have ha9t : (I67 a0 9).toInt = x51_.toInt := congrArg Int32.toInt ha9
        have haN : I67 rm 10 = x66_ := (by rw [eI67]; exact up2_self _ _ _ _)
        have haNt : (I67 rm 10).toInt = x66_.toInt := congrArg Int32.toInt haN
        refine r_callV hC (As := []) (rest := []) (ci := 10) (c_X10_goesOn g (xL X) K len I67 J57 R hs67 a0 ka0) mT_5_199 mT_1_10 mT_5_196 mT_5_198 mP_49 okX10_goesOn ⟨by decide, by decide⟩ rfl (by show kO (K a0) = _; rw [ka0]; rfl) rfl rfl (Nat.le_of_ble_eq_true rfl) ⟨by decide, by decide⟩ dX10_readFresh_106 (aV2 (F := fun st M => P g X 3 109 [(0, .ref a0), (1, .int x1), (2, .int x2)] st _ _ M) (M := (K, len, I67, J57, R)) fun I68 J68 h68 => ?_)
        obtain ⟨hs68, hf68, hfj68, k68_0, k68_1, k68_2, k68_3⟩ := h68
        show P g X 3 109 [(0, .ref a0), (1, .int x1), (2, .int x2)] [] _ _ (K, len, I68, J68, R)
        have hF68 : Fr K [(10, 10), (11, 8), (11, 9), (11, 10), (11, 11), (11, 12), (11, 13), (83, 999), (84, 999)] I I68 := hF67.trans hf68 rfl rfl
        have hFJ68 : Fr K [(11, 14), (82, 999)] J J68 := hFJ57.trans hfj68 rfl rfl
        have hvN : I68 rm 10 = x66_ := (Eq.trans (hf68.get krm rfl) (by rw [eI67]; exact up2_self _ _ _ _))
        have hvNt : (I68 rm 10).toInt = x66_.toInt := congrArg Int32.toInt hvN
        exact r_vret hC hQ hlk hr (by decide) (by decide) dX10_readFresh_109 ⟨_, _, rfl, rfl, ⟨hs68, hF68, hFJ68, (by omega), (by omega), (by omega), (by omega)⟩⟩
      · have hvN : I46 rm 10 = N0 := (Eq.trans (hf46.get krm rfl) eN0.symm)
        have hvNt : (I46 rm 10).toInt = N0.toInt := congrArg Int32.toInt hvN
        have hv8 : I46 a0 8 = A0 := (Eq.trans (hf46.get ka0 rfl) eA0.symm)
        have hv8t : (I46 a0 8).toInt = A0.toInt := congrArg Int32.toInt hv8
        have hv9 : I46 a0 9 = x51_ := e51.symm
        have hv9t : (I46 a0 9).toInt = x51_.toInt := congrArg Int32.toInt hv9
        exact r_vret hC hQ hlk hr (by decide) (by decide) dX10_readFresh_40 ⟨_, _, rfl, rfl, ⟨hs46, hF46, hFJ, (by omega), (by omega), (by omega), (by omega)⟩⟩
    · refine r_aload_n hC dX10_readFresh_27 0 rfl ?_
      refine r_iconst hC (v := (3)) dX10_readFresh_28 (by decide) (by decide) (fun x69_ e69 t69 => ?_)
      refine r_callV hC (As := [.int x69_]) (rest := []) (ci := 10) (c_X10_wrong g (xL X) K len I46 J R hs46 a0 ka0 x69_) mT_5_236 mT_1_10 mT_5_233 mT_5_235 mP_55 okX10_wrong ⟨by decide, by decide⟩ rfl (by show kO (K a0) = _; rw [ka0]; rfl) rfl rfl (Nat.le_of_ble_eq_true rfl) ⟨by decide, by decide⟩ dX10_readFresh_29 (aV1 (F := fun st M => P g X 3 32 [(0, .ref a0), (1, .int x1), (2, .int x2)] st _ _ M) (M := (K, len, I46, J, R)) fun I70 h70 => ?_)
      obtain ⟨hs70, hf70, k70_0, k70_1⟩ := h70
      show P g X 3 32 [(0, .ref a0), (1, .int x1), (2, .int x2)] [] _ _ (K, len, I70, J, R)
      have hF70 : Fr K [(10, 10), (11, 8), (11, 9), (11, 10), (11, 11), (11, 12), (11, 13), (83, 999), (84, 999)] I I70 := hF46.trans hf70 rfl rfl
      refine r_aload_n hC dX10_readFresh_32 0 rfl ?_
      refine r_geti hC 9 (ci := 10) rfl u10_in (by decide) mT_5_4 dX10_readFresh_33 ka0 rfl rfl (fun x71_ e71 => ?_)
      have f71 : x71_.toInt = (I70 a0 9).toInt := by rw [e71]
      refine r_iconst hC (v := (5)) dX10_readFresh_36 (by decide) (by decide) (fun x72_ e72 t72 => ?_)
      refine r_icmp_ne hC (tgt := 41) dX10_readFresh_37 (by decide) (fun c73 => ?_) (fun c73 => ?_)
      · refine r_aload_n hC dX10_readFresh_41 0 rfl ?_
        refine r_getr hC 4 (ci := 10) rfl u10_in (by decide) mT_4_239 dX10_readFresh_42 ka0 rfl rfl hbr ?_
        obtain ⟨a74_, hb74, hk74, hn74⟩ := hs70.row krm 25 82 19 (by decide) (by decide)
        refine r_getrN hC 25 (ci := 9) rfl u9_in (by decide) nF_25 dX10_readFresh_45 krm rfl rfl hb74 ?_
        refine r_aload_n hC dX10_readFresh_48 0 rfl ?_
        refine r_getr hC 4 (ci := 10) rfl u10_in (by decide) mT_4_239 dX10_readFresh_49 ka0 rfl rfl hbr ?_
        refine r_getiN hC 10 (ci := 9) rfl u9_in (by decide) nF_10 dX10_readFresh_52 krm rfl rfl (fun x75_ e75 => ?_)
        have r75 := hs70.rng krm rfl e75
        have f75 : x75_.toInt = (I70 rm 10).toInt := by rw [e75]
        have w75 : x75_ = N0 := by rw [e75]; exact (Eq.trans (hf70.get krm rfl) (Eq.trans (hf46.get krm rfl) eN0.symm))
        have wt75 : x75_.toInt = N0.toInt := by rw [w75]
        refine r_aload_n hC dX10_readFresh_55 0 rfl ?_
        refine r_getj hC 14 (ci := 10) rfl u10_in (by decide) mT_5_9 dX10_readFresh_56 ka0 rfl rfl (fun y76_ e76 => ?_)
        refine x_lastore hC hk74 hn74 (by decide) rfl rfl dX10_readFresh_59 (by omega) (by omega) (fun J77 eJ77 => ?_)
        have hFJ77 := hFJ.put eJ77 hk74 (inS_arr rfl _)
        refine r_aload_n hC dX10_readFresh_60 0 rfl ?_
        refine r_getr hC 4 (ci := 10) rfl u10_in (by decide) mT_4_239 dX10_readFresh_61 ka0 rfl rfl hbr ?_
        obtain ⟨a78_, hb78, hk78, hn78⟩ := hs70.row krm 26 83 19 (by decide) (by decide)
        refine r_getrN hC 26 (ci := 9) rfl u9_in (by decide) nF_26 dX10_readFresh_64 krm rfl rfl hb78 ?_
        refine r_aload_n hC dX10_readFresh_67 0 rfl ?_
        refine r_getr hC 4 (ci := 10) rfl u10_in (by decide) mT_4_239 dX10_readFresh_68 ka0 rfl rfl hbr ?_
        refine r_getiN hC 10 (ci := 9) rfl u9_in (by decide) nF_10 dX10_readFresh_71 krm rfl rfl (fun x79_ e79 => ?_)
        have r79 := hs70.rng krm rfl e79
        have f79 : x79_.toInt = (I70 rm 10).toInt := by rw [e79]
        have w79 : x79_ = x75_ := by rw [e79]; exact e75.symm
        have wt79 : x79_.toInt = x75_.toInt := by rw [w79]
        refine r_iload_n hC dX10_readFresh_74 1 rfl ?_
        refine x_iastore hC hk78 hn78 (by decide) rfl rfl dX10_readFresh_75 (by omega) (by omega) (fun I80 eI80 => ?_)
        have hs80 := hs70.put0 eI80 hk78 (rng_arr (by decide) _) rfl (xF_arr (by decide) _) (by decide)
        have hF80 := hF70.put eI80 hk78 (inS_arr rfl _)
        refine r_aload_n hC dX10_readFresh_76 0 rfl ?_
        refine r_getr hC 4 (ci := 10) rfl u10_in (by decide) mT_4_239 dX10_readFresh_77 ka0 rfl rfl hbr ?_
        obtain ⟨a81_, hb81, hk81, hn81⟩ := hs80.row krm 27 84 19 (by decide) (by decide)
        refine r_getrN hC 27 (ci := 9) rfl u9_in (by decide) nF_27 dX10_readFresh_80 krm rfl rfl hb81 ?_
        refine r_aload_n hC dX10_readFresh_83 0 rfl ?_
        refine r_getr hC 4 (ci := 10) rfl u10_in (by decide) mT_4_239 dX10_readFresh_84 ka0 rfl rfl hbr ?_
        refine r_getiN hC 10 (ci := 9) rfl u9_in (by decide) nF_10 dX10_readFresh_87 krm rfl rfl (fun x82_ e82 => ?_)
        have r82 := hs80.rng krm rfl e82
        have f82 : x82_.toInt = (I80 rm 10).toInt := by rw [e82]
        have w82 : x82_ = x79_ := by rw [e82]; exact (Eq.trans (up2_kk eI80 hk78 krm (by decide)) e79.symm)
        have wt82 : x82_.toInt = x79_.toInt := by rw [w82]
        refine r_iload_n hC dX10_readFresh_90 2 rfl ?_
        refine x_iastore hC hk81 hn81 (by decide) rfl rfl dX10_readFresh_91 (by omega) (by omega) (fun I83 eI83 => ?_)
        have hs83 := hs80.put0 eI83 hk81 (rng_arr (by decide) _) rfl (xF_arr (by decide) _) (by decide)
        have hF83 := hF80.put eI83 hk81 (inS_arr rfl _)
        refine r_aload_n hC dX10_readFresh_92 0 rfl ?_
        refine r_getr hC 4 (ci := 10) rfl u10_in (by decide) mT_4_239 dX10_readFresh_93 ka0 rfl rfl hbr ?_
        refine r_dup hC dX10_readFresh_96 rfl ?_
        refine r_getiN hC 10 (ci := 9) rfl u9_in (by decide) nF_10 dX10_readFresh_97 krm rfl rfl (fun x84_ e84 => ?_)
        have r84 := hs83.rng krm rfl e84
        have f84 : x84_.toInt = (I83 rm 10).toInt := by rw [e84]
        have w84 : x84_ = x82_ := by rw [e84]; exact (Eq.trans (up2_kk eI83 hk81 krm (by decide)) e82.symm)
        have wt84 : x84_.toInt = x82_.toInt := by rw [w84]
        refine r_iconst hC (v := (1)) dX10_readFresh_100 (by decide) (by decide) (fun x85_ e85 t85 => ?_)
        refine r_iadd hC dX10_readFresh_101 (fun x86_ e86 => ?_)
        try have t86 : x86_.toInt = x84_.toInt + x85_.toInt := by rw [e86]; exact ti_add (by omega) (by omega)
        refine r_putiN hC 10 (ci := 9) rfl u9_in tyX9_ok nmX9 (by decide) nF_10 rfl rfl rfl dX10_readFresh_102 krm rfl rfl (fun I87 eI87 => ?_)
        have hs87 := hs83.put1 eI87 krm rfl (by omega) (by omega) rfl rfl (by decide)
        have hF87 := hF83.put eI87 krm rfl
        refine r_aload_n hC dX10_readFresh_105 0 rfl ?_
        have ha8 : I87 a0 8 = A0 := (Eq.trans (up2_kk eI87 krm ka0 (by decide)) (Eq.trans (up2_kk eI83 hk81 ka0 (by decide)) (Eq.trans (up2_kk eI80 hk78 ka0 (by decide)) (Eq.trans (hf70.get ka0 rfl) (Eq.trans (hf46.get ka0 rfl) eA0.symm)))))
        have ha8t : (I87 a0 8).toInt = A0.toInt := congrArg Int32.toInt ha8
        have ha9 : I87 a0 9 = x71_ := (Eq.trans (up2_kk eI87 krm ka0 (by decide)) (Eq.trans (up2_kk eI83 hk81 ka0 (by decide)) (Eq.trans (up2_kk eI80 hk78 ka0 (by decide)) e71.symm)))
        have ha9t : (I87 a0 9).toInt = x71_.toInt := congrArg Int32.toInt ha9
        have haN : I87 rm 10 = x86_ := (by rw [eI87]; exact up2_self _ _ _ _)
        have haNt : (I87 rm 10).toInt = x86_.toInt := congrArg Int32.toInt haN
        refine r_callV hC (As := []) (rest := []) (ci := 10) (c_X10_goesOn g (xL X) K len I87 J77 R hs87 a0 ka0) mT_5_199 mT_1_10 mT_5_196 mT_5_198 mP_49 okX10_goesOn ⟨by decide, by decide⟩ rfl (by show kO (K a0) = _; rw [ka0]; rfl) rfl rfl (Nat.le_of_ble_eq_true rfl) ⟨by decide, by decide⟩ dX10_readFresh_106 (aV2 (F := fun st M => P g X 3 109 [(0, .ref a0), (1, .int x1), (2, .int x2)] st _ _ M) (M := (K, len, I87, J77, R)) fun I88 J88 h88 => ?_)
        obtain ⟨hs88, hf88, hfj88, k88_0, k88_1, k88_2, k88_3⟩ := h88
        show P g X 3 109 [(0, .ref a0), (1, .int x1), (2, .int x2)] [] _ _ (K, len, I88, J88, R)
        have hF88 : Fr K [(10, 10), (11, 8), (11, 9), (11, 10), (11, 11), (11, 12), (11, 13), (83, 999), (84, 999)] I I88 := hF87.trans hf88 rfl rfl
        have hFJ88 : Fr K [(11, 14), (82, 999)] J J88 := hFJ77.trans hfj88 rfl rfl
        have hvN : I88 rm 10 = x86_ := (Eq.trans (hf88.get krm rfl) (by rw [eI87]; exact up2_self _ _ _ _))
        have hvNt : (I88 rm 10).toInt = x86_.toInt := congrArg Int32.toInt hvN
        exact r_vret hC hQ hlk hr (by decide) (by decide) dX10_readFresh_109 ⟨_, _, rfl, rfl, ⟨hs88, hF88, hFJ88, (by omega), (by omega), (by omega), (by omega)⟩⟩
      · have hvN : I70 rm 10 = N0 := (Eq.trans (hf70.get krm rfl) (Eq.trans (hf46.get krm rfl) eN0.symm))
        have hvNt : (I70 rm 10).toInt = N0.toInt := congrArg Int32.toInt hvN
        have hv8 : I70 a0 8 = A0 := (Eq.trans (hf70.get ka0 rfl) (Eq.trans (hf46.get ka0 rfl) eA0.symm))
        have hv8t : (I70 a0 8).toInt = A0.toInt := congrArg Int32.toInt hv8
        have hv9 : I70 a0 9 = x71_ := e71.symm
        have hv9t : (I70 a0 9).toInt = x71_.toInt := congrArg Int32.toInt hv9
        exact r_vret hC hQ hlk hr (by decide) (by decide) dX10_readFresh_40 ⟨_, _, rfl, rfl, ⟨hs70, hF70, hFJ, (by omega), (by omega), (by omega), (by omega)⟩⟩
