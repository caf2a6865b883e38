abbrev rmX8_feed : Room := { frames := 1, cells := 0, slots := 0, locals := 22 }
abbrev rmX8_hill : Room := { frames := 10, cells := 0, slots := 0, locals := 217 }
abbrev rmX8_fault : Room := { frames := 0, cells := 0, slots := 0, locals := 0 }
abbrev rmX8_where : Room := { frames := 0, cells := 0, slots := 0, locals := 0 }
abbrev rmX8_level : Room := { frames := 1, cells := 0, slots := 0, locals := 21 }
abbrev rmX8_plan : Room := { frames := 4, cells := 0, slots := 0, locals := 90 }
abbrev rmX8_undo : Room := { frames := 4, cells := 0, slots := 0, locals := 90 }
abbrev rmX8_peg : Room := { frames := 5, cells := 0, slots := 0, locals := 122 }
abbrev rmX8_gone : Room := { frames := 5, cells := 0, slots := 0, locals := 122 }
abbrev rmX8_wave : Room := { frames := 5, cells := 0, slots := 0, locals := 122 }
abbrev rmX8_read : Room := { frames := 1, cells := 0, slots := 0, locals := 24 }
abbrev rmX8_forget : Room := { frames := 0, cells := 0, slots := 0, locals := 0 }
abbrev rmX8_fits : Room := { frames := 6, cells := 0, slots := 0, locals := 143 }
abbrev rmX8_fit : Room := { frames := 6, cells := 0, slots := 0, locals := 143 }
abbrev rmX8_weight : Room := { frames := 6, cells := 0, slots := 0, locals := 143 }
abbrev rmX8_clear : Room := { frames := 6, cells := 0, slots := 0, locals := 143 }
abbrev rmX8_lettings : Room := { frames := 4, cells := 0, slots := 0, locals := 85 }
abbrev rmX8_tap : Room := { frames := 6, cells := 0, slots := 0, locals := 146 }
abbrev rmX8_fooled : Room := { frames := 6, cells := 0, slots := 0, locals := 146 }
abbrev rmX8_nought : Room := { frames := 5, cells := 0, slots := 0, locals := 122 }
abbrev rmX8_span : Room := { frames := 5, cells := 0, slots := 0, locals := 122 }
abbrev rmX8_helps : Room := { frames := 5, cells := 0, slots := 0, locals := 122 }
abbrev rmX8_last : Room := { frames := 5, cells := 0, slots := 0, locals := 122 }
abbrev rmX8_safe : Room := { frames := 5, cells := 0, slots := 0, locals := 122 }
abbrev rmX8_found : Room := { frames := 1, cells := 0, slots := 0, locals := 21 }
abbrev rmX8_bore : Room := { frames := 6, cells := 0, slots := 0, locals := 143 }
abbrev rmX8_struck : Room := { frames := 6, cells := 0, slots := 0, locals := 145 }
abbrev rmX8_dead : Room := { frames := 6, cells := 0, slots := 0, locals := 145 }
abbrev rmX8_tell : Room := { frames := 6, cells := 0, slots := 0, locals := 145 }
abbrev rmX8_part : Room := { frames := 5, cells := 0, slots := 0, locals := 122 }
abbrev rmX8_knew : Room := { frames := 2, cells := 0, slots := 0, locals := 45 }
abbrev rmX8_size : Room := { frames := 0, cells := 0, slots := 0, locals := 0 }
abbrev rmX8_trouble : Room := { frames := 0, cells := 0, slots := 0, locals := 0 }
set_option maxHeartbeats 4000000 in
set_option maxRecDepth 100000 in
theorem c_X8_lettings (g : GG) (l : Launch) (K len : Nat → Nat) (I : Nat → Nat → Int32) (J : Nat → Nat → Int64) (R : Nat → Nat → Option Nat) (hs : Sf K len I R) (a0 : Nat) (ka0 : K a0 = 9) : Ct g l yX8_lettings cX8_lettings 1 (Option.some Jvm.ClassFile.FieldType.int) rmX8_lettings [.ref a0] (K, len, I, J, R) (pI1 (K, len, I, J, R) (fun r I' => Sf K len I' R ∧ Fr K [(9, 12)] I I' ∧ ((I' a0 12).toInt ≠ 4))) := by
  refine Ct_intro (by decide +kernel) (Nat.le_of_ble_eq_true rfl) (fun X hC hL hKK hNm hr hlk hQ => ?_)
  subst hL
  have hC : Cx g X cX8_lettings "HillTap" 1 rmX8_lettings := hC
  show P g X 1 0 [(0, .ref a0)] [] 0 0 (K, len, I, J, R)
  have hF : Fr K [(9, 12)] I I := Fr.refl
  refine r_aload_n hC dX8_lettings_0 0 rfl ?_
  refine r_callV hC (As := []) (rest := []) (ci := 8) (c_X8_noHill g (xL X) K len I J R hs a0 ka0) mT_3_131 mT_1_1 mT_3_128 mT_3_130 mP_22 okX8_noHill ⟨by decide, by decide⟩ rfl (by show kO (K a0) = _; rw [ka0]; rfl) rfl rfl (Nat.le_of_ble_eq_true rfl) ⟨by decide, by decide⟩ dX8_lettings_1 (aI0 (F := fun st M => P g X 1 4 [(0, .ref a0)] st _ _ M) (M := (K, len, I, J, R)) fun x1_ h1 => ?_)
  obtain ⟨k1_0, k1_1⟩ := h1
  show P g X 1 4 [(0, .ref a0)] [.int x1_] _ _ (K, len, I, J, R)
  refine r_if_eq hC (tgt := 13) dX8_lettings_4 (by decide) (fun c2 => ?_) (fun c2 => ?_)
  · refine r_aload_n hC dX8_lettings_13 0 rfl ?_
    refine r_aload_n hC dX8_lettings_14 0 rfl ?_
    refine r_callV hC (As := []) (rest := [.ref a0]) (ci := 8) (c_X8_countLettings g (xL X) K len I J R hs a0 ka0) mT_4_27 mT_1_1 mT_4_24 mT_4_26 mP_37 okX8_countLettings ⟨by decide, by decide⟩ rfl (by show kO (K a0) = _; rw [ka0]; rfl) rfl rfl (Nat.le_of_ble_eq_true rfl) ⟨by decide, by decide⟩ dX8_lettings_15 (aI0 (F := fun st M => P g X 1 18 [(0, .ref a0)] st _ _ M) (M := (K, len, I, J, R)) fun x3_ h3 => ?_)
    skip
    show P g X 1 18 [(0, .ref a0)] [.int x3_, .ref a0] _ _ (K, len, I, J, R)
    refine r_callV hC (As := [.int x3_]) (rest := []) (ci := 8) (c_X8_answer g (xL X) K len I J R hs a0 ka0 x3_) mT_3_115 mT_1_1 mT_3_112 mT_3_114 mP_21 okX8_answer ⟨by decide, by decide⟩ rfl (by show kO (K a0) = _; rw [ka0]; rfl) rfl rfl (Nat.le_of_ble_eq_true rfl) ⟨by decide, by decide⟩ dX8_lettings_18 (aI1 (F := fun st M => P g X 1 21 [(0, .ref a0)] st _ _ M) (M := (K, len, I, J, R)) fun x4_ I4 h4 => ?_)
    obtain ⟨hs4, hf4, k4_0, k4_1⟩ := h4
    show P g X 1 21 [(0, .ref a0)] [.int x4_] _ _ (K, len, I4, J, R)
    have hF4 : Fr K [(9, 12)] I I4 := hF.trans hf4 rfl rfl
    exact r_iret hC hQ hlk hr rfl (by decide) (by decide) dX8_lettings_21 ⟨_, _, rfl, rfl, ⟨hs4, hF4, (by omega)⟩⟩
  · refine r_aload_n hC dX8_lettings_7 0 rfl ?_
    refine r_iconst hC (v := (1)) dX8_lettings_8 (by decide) (by decide) (fun x5_ e5 t5 => ?_)
    refine r_callV hC (As := [.int x5_]) (rest := []) (ci := 8) (c_X8_refuse g (xL X) K len I J R hs a0 ka0 x5_) mT_2_133 mT_1_1 mT_2_130 mT_2_132 mP_0 okX8_refuse ⟨by decide, by decide⟩ rfl (by show kO (K a0) = _; rw [ka0]; rfl) rfl rfl (Nat.le_of_ble_eq_true rfl) ⟨by decide, by decide⟩ dX8_lettings_9 (aI1 (F := fun st M => P g X 1 12 [(0, .ref a0)] st _ _ M) (M := (K, len, I, J, R)) fun x6_ I6 h6 => ?_)
    obtain ⟨hs6, hf6, k6_0, k6_1⟩ := h6
    show P g X 1 12 [(0, .ref a0)] [.int x6_] _ _ (K, len, I6, J, R)
    have hF6 : Fr K [(9, 12)] I I6 := hF.trans hf6 rfl rfl
    exact r_iret hC hQ hlk hr rfl (by decide) (by decide) dX8_lettings_12 ⟨_, _, rfl, rfl, ⟨hs6, hF6, (by omega)⟩⟩
set_option maxHeartbeats 4000000 in
set_option maxRecDepth 100000 in
theorem c_X8_trouble (g : GG) (l : Launch) (K len : Nat → Nat) (I : Nat → Nat → Int32) (J : Nat → Nat → Int64) (R : Nat → Nat → Option Nat) (hs : Sf K len I R) (a0 : Nat) (ka0 : K a0 = 9) : Ct g l yX8_trouble cX8_trouble 1 (Option.some Jvm.ClassFile.FieldType.int) rmX8_trouble [.ref a0] (K, len, I, J, R) (pI0 (K, len, I, J, R) (fun r => True)) := by
  refine Ct_intro (by decide +kernel) (Nat.le_of_ble_eq_true rfl) (fun X hC hL hKK hNm hr hlk hQ => ?_)
  subst hL
  have hC : Cx g X cX8_trouble "HillTap" 1 rmX8_trouble := hC
  show P g X 1 0 [(0, .ref a0)] [] 0 0 (K, len, I, J, R)
  have hF : Fr K [] I I := Fr.refl
  refine r_aload_n hC dX8_trouble_0 0 rfl ?_
  refine r_geti hC 12 (ci := 8) rfl u8_in (by decide) mT_2_90 dX8_trouble_1 ka0 rfl rfl (fun x1_ e1 => ?_)
  exact r_iret hC hQ hlk hr rfl (by decide) (by decide) dX8_trouble_4 ⟨_, rfl, rfl, trivial⟩

