abbrev rmX8_feed : Room := { frames := 1, cells := 0, slots := 0, locals := 22 }
abbrev rmX8_hill : Room := { frames := 10, cells := 0, slots := 0, locals := 217 }
abbrev rmX8_fault : Room := { frames := 0, cells := 0, slots := 0, locals := 0 }
abbrev rmX8_where : Room := { frames := 0, cells := 0, slots := 0, locals := 0 }
abbrev rmX8_level : Room := { frames := 1, cells := 0, slots := 0, locals := 21 }
abbrev rmX8_plan : Room := { frames := 4, cells := 0, slots := 0, locals := 90 }
abbrev rmX8_undo : Room := { frames := 4, cells := 0, slots := 0, locals := 90 }
abbrev rmX8_peg : Room := { frames := 5, cells := 0, slots := 0, locals := 122 }
abbrev rmX8_gone : Room := { frames := 5, cells := 0, slots := 0, locals := 122 }
abbrev rmX8_wave : Room := { frames := 5, cells := 0, slots := 0, locals := 122 }
abbrev rmX8_read : Room := { frames := 1, cells := 0, slots := 0, locals := 24 }
abbrev rmX8_forget : Room := { frames := 0, cells := 0, slots := 0, locals := 0 }
abbrev rmX8_fits : Room := { frames := 6, cells := 0, slots := 0, locals := 143 }
abbrev rmX8_fit : Room := { frames := 6, cells := 0, slots := 0, locals := 143 }
abbrev rmX8_weight : Room := { frames := 6, cells := 0, slots := 0, locals := 143 }
abbrev rmX8_clear : Room := { frames := 6, cells := 0, slots := 0, locals := 143 }
abbrev rmX8_lettings : Room := { frames := 4, cells := 0, slots := 0, locals := 85 }
abbrev rmX8_tap : Room := { frames := 6, cells := 0, slots := 0, locals := 146 }
abbrev rmX8_fooled : Room := { frames := 6, cells := 0, slots := 0, locals := 146 }
abbrev rmX8_nought : Room := { frames := 5, cells := 0, slots := 0, locals := 122 }
abbrev rmX8_span : Room := { frames := 5, cells := 0, slots := 0, locals := 122 }
abbrev rmX8_helps : Room := { frames := 5, cells := 0, slots := 0, locals := 122 }
abbrev rmX8_last : Room := { frames := 5, cells := 0, slots := 0, locals := 122 }
abbrev rmX8_safe : Room := { frames := 5, cells := 0, slots := 0, locals := 122 }
abbrev rmX8_found : Room := { frames := 1, cells := 0, slots := 0, locals := 21 }
abbrev rmX8_bore : Room := { frames := 6, cells := 0, slots := 0, locals := 143 }
abbrev rmX8_struck : Room := { frames := 6, cells := 0, slots := 0, locals := 145 }
abbrev rmX8_dead : Room := { frames := 6, cells := 0, slots := 0, locals := 145 }
abbrev rmX8_tell : Room := { frames := 6, cells := 0, slots := 0, locals := 145 }
abbrev rmX8_part : Room := { frames := 5, cells := 0, slots := 0, locals := 122 }
abbrev rmX8_knew : Room := { frames := 2, cells := 0, slots := 0, locals := 45 }
abbrev rmX8_size : Room := { frames := 0, cells := 0, slots := 0, locals := 0 }
abbrev rmX8_trouble : Room := { frames := 0, cells := 0, slots := 0, locals := 0 }
set_option maxHeartbeats 4000000 in
set_option maxRecDepth 100000 in
theorem c_X8_peg (g : GG) (l : Launch) (K len : Nat → Nat) (I : Nat → Nat → Int32) (J : Nat → Nat → Int64) (R : Nat → Nat → Option Nat) (hs : Sf K len I R) (a0 : Nat) (ka0 : K a0 = 9) (x1 : Int32) (x2 : Int32) (x3 : Int32) (x4 : Int32) : Ct g l yX8_peg cX8_peg 6 (Option.some Jvm.ClassFile.FieldType.int) rmX8_peg [.ref a0, .int x1, .int x2, .int x3, .int x4] (K, len, I, J, R) (pI1 (K, len, I, J, R) (fun r I' => Sf K len I' R ∧ Fr K [(1, 5), (1, 6), (9, 12), (43, 999), (50, 999), (51, 999), (52, 999), (53, 999), (54, 999)] I I' ∧ ((I' a0 12).toInt ≠ 4))) := by
  refine Ct_intro (by decide +kernel) (Nat.le_of_ble_eq_true rfl) (fun X hC hL hKK hNm hr hlk hQ => ?_)
  subst hL
  have hC : Cx g X cX8_peg "HillTap" 6 rmX8_peg := hC
  show P g X 6 0 [(0, .ref a0), (1, .int x1), (2, .int x2), (3, .int x3), (4, .int x4)] [] 0 0 (K, len, I, J, R)
  have hF : Fr K [(1, 5), (1, 6), (9, 12), (43, 999), (50, 999), (51, 999), (52, 999), (53, 999), (54, 999)] I I := Fr.refl
  have b_x1 := ti_rng x1
  have b_x2 := ti_rng x2
  have b_x3 := ti_rng x3
  have b_x4 := ti_rng x4
  refine r_aload_n hC dX8_peg_0 0 rfl ?_
  refine r_iload_n hC dX8_peg_1 1 rfl ?_
  refine r_iload_n hC dX8_peg_2 2 rfl ?_
  refine r_iload_n hC dX8_peg_3 3 rfl ?_
  refine r_callV hC (As := [.int x1, .int x2, .int x3]) (rest := []) (ci := 8) (c_X8_isPegDay g (xL X) K len I J R hs a0 ka0 x1 x2 x3) mT_3_151 mT_1_1 mT_3_148 mT_3_150 mP_23 okX8_isPegDay ⟨by decide, by decide⟩ rfl (by show kO (K a0) = _; rw [ka0]; rfl) rfl rfl (Nat.le_of_ble_eq_true rfl) ⟨by decide, by decide⟩ dX8_peg_4 (aI0 (F := fun st M => P g X 6 7 [(0, .ref a0), (1, .int x1), (2, .int x2), (3, .int x3), (4, .int x4)] st _ _ M) (M := (K, len, I, J, R)) fun x1_ h1 => ?_)
  obtain ⟨k1_0, k1_1, k1_2⟩ := h1
  show P g X 6 7 [(0, .ref a0), (1, .int x1), (2, .int x2), (3, .int x3), (4, .int x4)] [.int x1_] _ _ (K, len, I, J, R)
  refine r_if_ne hC (tgt := 16) dX8_peg_7 (by decide) (fun c2 => ?_) (fun c2 => ?_)
  · refine r_aload_n hC dX8_peg_16 0 rfl ?_
    refine r_iload_n hC dX8_peg_17 1 rfl ?_
    refine r_callV hC (As := [.int x1]) (rest := []) (ci := 8) (c_X8_courseOf g (xL X) K len I J R hs a0 ka0 x1 (by omega) (by omega)) mT_3_163 mT_1_1 mT_3_160 mT_3_162 mP_26 okX8_courseOf ⟨by decide, by decide⟩ rfl (by show kO (K a0) = _; rw [ka0]; rfl) rfl rfl (Nat.le_of_ble_eq_true rfl) ⟨by decide, by decide⟩ dX8_peg_18 (aR1 (F := fun st M => P g X 6 21 [(0, .ref a0), (1, .int x1), (2, .int x2), (3, .int x3), (4, .int x4)] st _ _ M) (M := (K, len, I, J, R)) fun a3_ I3 h3 => ?_)
    obtain ⟨hs3, hf3, k3_0⟩ := h3
    show P g X 6 21 [(0, .ref a0), (1, .int x1), (2, .int x2), (3, .int x3), (4, .int x4)] [.ref a3_] _ _ (K, len, I3, J, R)
    have hF3 : Fr K [(1, 5), (1, 6), (9, 12), (43, 999), (50, 999), (51, 999), (52, 999), (53, 999), (54, 999)] I I3 := hF.trans hf3 rfl rfl
    refine r_astore hC (lv' := [(5, .ref a3_), (0, .ref a0), (1, .int x1), (2, .int x2), (3, .int x3), (4, .int x4)]) dX8_peg_21 (by decide) rfl ?_
    refine r_iload hC dX8_peg_23 5 rfl ?_
    by_cases o4 : x4.toInt < 0 ∨ 2 < x4.toInt
    · refine r_tabOut hC (tgt := 100) dX8_peg_25 o4 (by decide) ?_
      refine r_aload_n hC dX8_peg_100 1 rfl ?_
      refine r_iconst hC (v := (1)) dX8_peg_101 (by decide) (by decide) (fun x5_ e5 t5 => ?_)
      refine r_callV hC (As := [.int x5_]) (rest := []) (ci := 8) (c_X8_refuse g (xL X) K len I3 J R hs3 a0 ka0 x5_) mT_2_133 mT_1_1 mT_2_130 mT_2_132 mP_0 okX8_refuse ⟨by decide, by decide⟩ rfl (by show kO (K a0) = _; rw [ka0]; rfl) rfl rfl (Nat.le_of_ble_eq_true rfl) ⟨by decide, by decide⟩ dX8_peg_102 (aI1 (F := fun st M => P g X 6 105 [(5, .ref a3_), (0, .ref a0), (1, .int x1), (2, .int x2), (3, .int x3), (4, .int x4)] st _ _ M) (M := (K, len, I3, J, R)) fun x6_ I6 h6 => ?_)
      obtain ⟨hs6, hf6, k6_0, k6_1⟩ := h6
      show P g X 6 105 [(5, .ref a3_), (0, .ref a0), (1, .int x1), (2, .int x2), (3, .int x3), (4, .int x4)] [.int x6_] _ _ (K, len, I6, J, R)
      have hF6 : Fr K [(1, 5), (1, 6), (9, 12), (43, 999), (50, 999), (51, 999), (52, 999), (53, 999), (54, 999)] I I6 := hF3.trans hf6 rfl rfl
      exact r_iret hC hQ hlk hr rfl (by decide) (by decide) dX8_peg_105 ⟨_, _, rfl, rfl, ⟨hs6, hF6, (by omega)⟩⟩
    · rcases (show x4.toInt = 0 ∨ x4.toInt = 1 ∨ x4.toInt = 2 by omega) with o4 | o4 | o4
      · refine r_tabIn hC (tgt := 52) (off := 27) dX8_peg_25 (by omega) (by omega) (by rw [o4]; decide) (by decide) ?_
        refine r_aload_n hC dX8_peg_52 1 rfl ?_
        refine r_aload hC dX8_peg_53 0 rfl ?_
        obtain ⟨a7_, hb7, hk7, hn7⟩ := hs3.row k3_0 1 51 300 (by decide) (by decide)
        refine r_getr hC 1 (ci := 0) rfl u0_in (by decide) mT_2_29 dX8_peg_55 k3_0 rfl rfl hb7 ?_
        refine r_iload_n hC dX8_peg_58 3 rfl ?_
        refine r_iload_n hC dX8_peg_59 4 rfl ?_
        refine r_callS hC (As := [.int x2, .int x3]) (rest := [.ref a7_, .ref a0]) (c_X8_row g (xL X) K len I3 J R hs3 x2 x3 (by omega) (by omega) (by omega) (by omega)) mT_3_192 mT_1_1 mT_3_197 mT_3_191 okX8_row ⟨by decide, by decide⟩ rfl rfl (Nat.le_of_ble_eq_true rfl) ⟨by decide, by decide⟩ dX8_peg_60 (aI0 (F := fun st M => P g X 6 63 [(5, .ref a3_), (0, .ref a0), (1, .int x1), (2, .int x2), (3, .int x3), (4, .int x4)] st _ _ M) (M := (K, len, I3, J, R)) fun x8_ h8 => ?_)
        have k8_0 := h8
        show P g X 6 63 [(5, .ref a3_), (0, .ref a0), (1, .int x1), (2, .int x2), (3, .int x3), (4, .int x4)] [.int x8_, .ref a7_, .ref a0] _ _ (K, len, I3, J, R)
        refine x_iaload hC hk7 hn7 (by decide) rfl rfl dX8_peg_63 (by omega) (by omega) (fun x9_ e9 => ?_)
        refine r_callV hC (As := [.int x9_]) (rest := []) (ci := 8) (c_X8_answer g (xL X) K len I3 J R hs3 a0 ka0 x9_) mT_3_115 mT_1_1 mT_3_112 mT_3_114 mP_21 okX8_answer ⟨by decide, by decide⟩ rfl (by show kO (K a0) = _; rw [ka0]; rfl) rfl rfl (Nat.le_of_ble_eq_true rfl) ⟨by decide, by decide⟩ dX8_peg_64 (aI1 (F := fun st M => P g X 6 67 [(5, .ref a3_), (0, .ref a0), (1, .int x1), (2, .int x2), (3, .int x3), (4, .int x4)] st _ _ M) (M := (K, len, I3, J, R)) fun x10_ I10 h10 => ?_)
        obtain ⟨hs10, hf10, k10_0, k10_1⟩ := h10
        show P g X 6 67 [(5, .ref a3_), (0, .ref a0), (1, .int x1), (2, .int x2), (3, .int x3), (4, .int x4)] [.int x10_] _ _ (K, len, I10, J, R)
        have hF10 : Fr K [(1, 5), (1, 6), (9, 12), (43, 999), (50, 999), (51, 999), (52, 999), (53, 999), (54, 999)] I I10 := hF3.trans hf10 rfl rfl
        exact r_iret hC hQ hlk hr rfl (by decide) (by decide) dX8_peg_67 ⟨_, _, rfl, rfl, ⟨hs10, hF10, (by omega)⟩⟩
      · refine r_tabIn hC (tgt := 68) (off := 43) dX8_peg_25 (by omega) (by omega) (by rw [o4]; decide) (by decide) ?_
        refine r_aload_n hC dX8_peg_68 1 rfl ?_
        refine r_aload hC dX8_peg_69 0 rfl ?_
        obtain ⟨a11_, hb11, hk11, hn11⟩ := hs3.row k3_0 0 50 300 (by decide) (by decide)
        refine r_getr hC 0 (ci := 0) rfl u0_in (by decide) mT_2_26 dX8_peg_71 k3_0 rfl rfl hb11 ?_
        refine r_iload_n hC dX8_peg_74 3 rfl ?_
        refine r_iload_n hC dX8_peg_75 4 rfl ?_
        refine r_callS hC (As := [.int x2, .int x3]) (rest := [.ref a11_, .ref a0]) (c_X8_row g (xL X) K len I3 J R hs3 x2 x3 (by omega) (by omega) (by omega) (by omega)) mT_3_192 mT_1_1 mT_3_197 mT_3_191 okX8_row ⟨by decide, by decide⟩ rfl rfl (Nat.le_of_ble_eq_true rfl) ⟨by decide, by decide⟩ dX8_peg_76 (aI0 (F := fun st M => P g X 6 79 [(5, .ref a3_), (0, .ref a0), (1, .int x1), (2, .int x2), (3, .int x3), (4, .int x4)] st _ _ M) (M := (K, len, I3, J, R)) fun x12_ h12 => ?_)
        have k12_0 := h12
        show P g X 6 79 [(5, .ref a3_), (0, .ref a0), (1, .int x1), (2, .int x2), (3, .int x3), (4, .int x4)] [.int x12_, .ref a11_, .ref a0] _ _ (K, len, I3, J, R)
        refine x_iaload hC hk11 hn11 (by decide) rfl rfl dX8_peg_79 (by omega) (by omega) (fun x13_ e13 => ?_)
        refine r_callV hC (As := [.int x13_]) (rest := []) (ci := 8) (c_X8_answer g (xL X) K len I3 J R hs3 a0 ka0 x13_) mT_3_115 mT_1_1 mT_3_112 mT_3_114 mP_21 okX8_answer ⟨by decide, by decide⟩ rfl (by show kO (K a0) = _; rw [ka0]; rfl) rfl rfl (Nat.le_of_ble_eq_true rfl) ⟨by decide, by decide⟩ dX8_peg_80 (aI1 (F := fun st M => P g X 6 83 [(5, .ref a3_), (0, .ref a0), (1, .int x1), (2, .int x2), (3, .int x3), (4, .int x4)] st _ _ M) (M := (K, len, I3, J, R)) fun x14_ I14 h14 => ?_)
        obtain ⟨hs14, hf14, k14_0, k14_1⟩ := h14
        show P g X 6 83 [(5, .ref a3_), (0, .ref a0), (1, .int x1), (2, .int x2), (3, .int x3), (4, .int x4)] [.int x14_] _ _ (K, len, I14, J, R)
        have hF14 : Fr K [(1, 5), (1, 6), (9, 12), (43, 999), (50, 999), (51, 999), (52, 999), (53, 999), (54, 999)] I I14 := hF3.trans hf14 rfl rfl
        exact r_iret hC hQ hlk hr rfl (by decide) (by decide) dX8_peg_83 ⟨_, _, rfl, rfl, ⟨hs14, hF14, (by omega)⟩⟩
      · refine r_tabIn hC (tgt := 84) (off := 59) dX8_peg_25 (by omega) (by omega) (by rw [o4]; decide) (by decide) ?_
        refine r_aload_n hC dX8_peg_84 1 rfl ?_
        refine r_aload hC dX8_peg_85 0 rfl ?_
        obtain ⟨a15_, hb15, hk15, hn15⟩ := hs3.row k3_0 2 52 300 (by decide) (by decide)
        refine r_getr hC 2 (ci := 0) rfl u0_in (by decide) mT_2_31 dX8_peg_87 k3_0 rfl rfl hb15 ?_
        refine r_iload_n hC dX8_peg_90 3 rfl ?_
        refine r_iload_n hC dX8_peg_91 4 rfl ?_
        refine r_callS hC (As := [.int x2, .int x3]) (rest := [.ref a15_, .ref a0]) (c_X8_row g (xL X) K len I3 J R hs3 x2 x3 (by omega) (by omega) (by omega) (by omega)) mT_3_192 mT_1_1 mT_3_197 mT_3_191 okX8_row ⟨by decide, by decide⟩ rfl rfl (Nat.le_of_ble_eq_true rfl) ⟨by decide, by decide⟩ dX8_peg_92 (aI0 (F := fun st M => P g X 6 95 [(5, .ref a3_), (0, .ref a0), (1, .int x1), (2, .int x2), (3, .int x3), (4, .int x4)] st _ _ M) (M := (K, len, I3, J, R)) fun x16_ h16 => ?_)
        have k16_0 := h16
        show P g X 6 95 [(5, .ref a3_), (0, .ref a0), (1, .int x1), (2, .int x2), (3, .int x3), (4, .int x4)] [.int x16_, .ref a15_, .ref a0] _ _ (K, len, I3, J, R)
        refine x_iaload hC hk15 hn15 (by decide) rfl rfl dX8_peg_95 (by omega) (by omega) (fun x17_ e17 => ?_)
        refine r_callV hC (As := [.int x17_]) (rest := []) (ci := 8) (c_X8_answer g (xL X) K len I3 J R hs3 a0 ka0 x17_) mT_3_115 mT_1_1 mT_3_112 mT_3_114 mP_21 okX8_answer ⟨by decide, by decide⟩ rfl (by show kO (K a0) = _; rw [ka0]; rfl) rfl rfl (Nat.le_of_ble_eq_true rfl) ⟨by decide, by decide⟩ dX8_peg_96 (aI1 (F := fun st M => P g X 6 99 [(5, .ref a3_), (0, .ref a0), (1, .int x1), (2, .int x2), (3, .int x3), (4, .int x4)] st _ _ M) (M := (K, len, I3, J, R)) fun x18_ I18 h18 => ?_)
        obtain ⟨hs18, hf18, k18_0, k18_1⟩ := h18
        show P g X 6 99 [(5, .ref a3_), (0, .ref a0), (1, .int x1), (2, .int x2), (3, .int x3), (4, .int x4)] [.int x18_] _ _ (K, len, I18, J, R)
        have hF18 : Fr K [(1, 5), (1, 6), (9, 12), (43, 999), (50, 999), (51, 999), (52, 999), (53, 999), (54, 999)] I I18 := hF3.trans hf18 rfl rfl
        exact r_iret hC hQ hlk hr rfl (by decide) (by decide) dX8_peg_99 ⟨_, _, rfl, rfl, ⟨hs18, hF18, (by omega)⟩⟩
  · refine r_aload_n hC dX8_peg_10 0 rfl ?_
    refine r_iconst hC (v := (1)) dX8_peg_11 (by decide) (by decide) (fun x19_ e19 t19 => ?_)
    refine r_callV hC (As := [.int x19_]) (rest := []) (ci := 8) (c_X8_refuse g (xL X) K len I J R hs a0 ka0 x19_) mT_2_133 mT_1_1 mT_2_130 mT_2_132 mP_0 okX8_refuse ⟨by decide, by decide⟩ rfl (by show kO (K a0) = _; rw [ka0]; rfl) rfl rfl (Nat.le_of_ble_eq_true rfl) ⟨by decide, by decide⟩ dX8_peg_12 (aI1 (F := fun st M => P g X 6 15 [(0, .ref a0), (1, .int x1), (2, .int x2), (3, .int x3), (4, .int x4)] st _ _ M) (M := (K, len, I, J, R)) fun x20_ I20 h20 => ?_)
    obtain ⟨hs20, hf20, k20_0, k20_1⟩ := h20
    show P g X 6 15 [(0, .ref a0), (1, .int x1), (2, .int x2), (3, .int x3), (4, .int x4)] [.int x20_] _ _ (K, len, I20, J, R)
    have hF20 : Fr K [(1, 5), (1, 6), (9, 12), (43, 999), (50, 999), (51, 999), (52, 999), (53, 999), (54, 999)] I I20 := hF.trans hf20 rfl rfl
    exact r_iret hC hQ hlk hr rfl (by decide) (by decide) dX8_peg_15 ⟨_, _, rfl, rfl, ⟨hs20, hF20, (by omega)⟩⟩
set_option maxHeartbeats 4000000 in
set_option maxRecDepth 100000 in
theorem c_X8_gone (g : GG) (l : Launch) (K len : Nat → Nat) (I : Nat → Nat → Int32) (J : Nat → Nat → Int64) (R : Nat → Nat → Option Nat) (hs : Sf K len I R) (a0 : Nat) (ka0 : K a0 = 9) (x1 : Int32) : Ct g l yX8_gone cX8_gone 2 (Option.some Jvm.ClassFile.FieldType.int) rmX8_gone [.ref a0, .int x1] (K, len, I, J, R) (pI1 (K, len, I, J, R) (fun r I' => Sf K len I' R ∧ Fr K [(1, 5), (1, 6), (9, 12), (43, 999), (50, 999), (51, 999), (52, 999), (53, 999), (54, 999)] I I' ∧ ((I' a0 12).toInt ≠ 4))) := by
  refine Ct_intro (by decide +kernel) (Nat.le_of_ble_eq_true rfl) (fun X hC hL hKK hNm hr hlk hQ => ?_)
  subst hL
  have hC : Cx g X cX8_gone "HillTap" 2 rmX8_gone := hC
  show P g X 2 0 [(0, .ref a0), (1, .int x1)] [] 0 0 (K, len, I, J, R)
  have hF : Fr K [(1, 5), (1, 6), (9, 12), (43, 999), (50, 999), (51, 999), (52, 999), (53, 999), (54, 999)] I I := Fr.refl
  have b_x1 := ti_rng x1
  refine r_aload_n hC dX8_gone_0 0 rfl ?_
  refine r_iload_n hC dX8_gone_1 1 rfl ?_
  refine r_callV hC (As := [.int x1]) (rest := []) (ci := 8) (c_X8_isStory g (xL X) K len I J R hs a0 ka0 x1) mT_3_155 mT_1_1 mT_3_152 mT_3_154 mP_24 okX8_isStory ⟨by decide, by decide⟩ rfl (by show kO (K a0) = _; rw [ka0]; rfl) rfl rfl (Nat.le_of_ble_eq_true rfl) ⟨by decide, by decide⟩ dX8_gone_2 (aI0 (F := fun st M => P g X 2 5 [(0, .ref a0), (1, .int x1)] st _ _ M) (M := (K, len, I, J, R)) fun x1_ h1 => ?_)
  obtain ⟨k1_0, k1_1, k1_2⟩ := h1
  show P g X 2 5 [(0, .ref a0), (1, .int x1)] [.int x1_] _ _ (K, len, I, J, R)
  refine r_if_ne hC (tgt := 14) dX8_gone_5 (by decide) (fun c2 => ?_) (fun c2 => ?_)
  · refine r_aload_n hC dX8_gone_14 0 rfl ?_
    refine r_aload_n hC dX8_gone_15 0 rfl ?_
    refine r_iload_n hC dX8_gone_16 1 rfl ?_
    refine r_callV hC (As := [.int x1]) (rest := [.ref a0]) (ci := 8) (c_X8_courseOf g (xL X) K len I J R hs a0 ka0 x1 (by omega) (by omega)) mT_3_163 mT_1_1 mT_3_160 mT_3_162 mP_26 okX8_courseOf ⟨by decide, by decide⟩ rfl (by show kO (K a0) = _; rw [ka0]; rfl) rfl rfl (Nat.le_of_ble_eq_true rfl) ⟨by decide, by decide⟩ dX8_gone_17 (aR1 (F := fun st M => P g X 2 20 [(0, .ref a0), (1, .int x1)] st _ _ M) (M := (K, len, I, J, R)) fun a3_ I3 h3 => ?_)
    obtain ⟨hs3, hf3, k3_0⟩ := h3
    show P g X 2 20 [(0, .ref a0), (1, .int x1)] [.ref a3_, .ref a0] _ _ (K, len, I3, J, R)
    have hF3 : Fr K [(1, 5), (1, 6), (9, 12), (43, 999), (50, 999), (51, 999), (52, 999), (53, 999), (54, 999)] I I3 := hF.trans hf3 rfl rfl
    refine r_geti hC 5 (ci := 0) rfl u0_in (by decide) mT_2_36 dX8_gone_20 k3_0 rfl rfl (fun x4_ e4 => ?_)
    refine r_callV hC (As := [.int x4_]) (rest := []) (ci := 8) (c_X8_answer g (xL X) K len I3 J R hs3 a0 ka0 x4_) mT_3_115 mT_1_1 mT_3_112 mT_3_114 mP_21 okX8_answer ⟨by decide, by decide⟩ rfl (by show kO (K a0) = _; rw [ka0]; rfl) rfl rfl (Nat.le_of_ble_eq_true rfl) ⟨by decide, by decide⟩ dX8_gone_23 (aI1 (F := fun st M => P g X 2 26 [(0, .ref a0), (1, .int x1)] st _ _ M) (M := (K, len, I3, J, R)) fun x5_ I5 h5 => ?_)
    obtain ⟨hs5, hf5, k5_0, k5_1⟩ := h5
    show P g X 2 26 [(0, .ref a0), (1, .int x1)] [.int x5_] _ _ (K, len, I5, J, R)
    have hF5 : Fr K [(1, 5), (1, 6), (9, 12), (43, 999), (50, 999), (51, 999), (52, 999), (53, 999), (54, 999)] I I5 := hF3.trans hf5 rfl rfl
    exact r_iret hC hQ hlk hr rfl (by decide) (by decide) dX8_gone_26 ⟨_, _, rfl, rfl, ⟨hs5, hF5, (by omega)⟩⟩
  · refine r_aload_n hC dX8_gone_8 0 rfl ?_
    refine r_iconst hC (v := (1)) dX8_gone_9 (by decide) (by decide) (fun x6_ e6 t6 => ?_)
    refine r_callV hC (As := [.int x6_]) (rest := []) (ci := 8) (c_X8_refuse g (xL X) K len I J R hs a0 ka0 x6_) mT_2_133 mT_1_1 mT_2_130 mT_2_132 mP_0 okX8_refuse ⟨by decide, by decide⟩ rfl (by show kO (K a0) = _; rw [ka0]; rfl) rfl rfl (Nat.le_of_ble_eq_true rfl) ⟨by decide, by decide⟩ dX8_gone_10 (aI1 (F := fun st M => P g X 2 13 [(0, .ref a0), (1, .int x1)] st _ _ M) (M := (K, len, I, J, R)) fun x7_ I7 h7 => ?_)
    obtain ⟨hs7, hf7, k7_0, k7_1⟩ := h7
    show P g X 2 13 [(0, .ref a0), (1, .int x1)] [.int x7_] _ _ (K, len, I7, J, R)
    have hF7 : Fr K [(1, 5), (1, 6), (9, 12), (43, 999), (50, 999), (51, 999), (52, 999), (53, 999), (54, 999)] I I7 := hF.trans hf7 rfl rfl
    exact r_iret hC hQ hlk hr rfl (by decide) (by decide) dX8_gone_13 ⟨_, _, rfl, rfl, ⟨hs7, hF7, (by omega)⟩⟩
set_option maxHeartbeats 4000000 in
set_option maxRecDepth 100000 in
theorem c_X8_wave (g : GG) (l : Launch) (K len : Nat → Nat) (I : Nat → Nat → Int32) (J : Nat → Nat → Int64) (R : Nat → Nat → Option Nat) (hs : Sf K len I R) (a0 : Nat) (ka0 : K a0 = 9) (x1 : Int32) : Ct g l yX8_wave cX8_wave 2 (Option.some Jvm.ClassFile.FieldType.int) rmX8_wave [.ref a0, .int x1] (K, len, I, J, R) (pI1 (K, len, I, J, R) (fun r I' => Sf K len I' R ∧ Fr K [(1, 5), (1, 6), (9, 12), (43, 999), (50, 999), (51, 999), (52, 999), (53, 999), (54, 999)] I I' ∧ ((I' a0 12).toInt ≠ 4))) := by
  refine Ct_intro (by decide +kernel) (Nat.le_of_ble_eq_true rfl) (fun X hC hL hKK hNm hr hlk hQ => ?_)
  subst hL
  have hC : Cx g X cX8_wave "HillTap" 2 rmX8_wave := hC
  show P g X 2 0 [(0, .ref a0), (1, .int x1)] [] 0 0 (K, len, I, J, R)
  have hF : Fr K [(1, 5), (1, 6), (9, 12), (43, 999), (50, 999), (51, 999), (52, 999), (53, 999), (54, 999)] I I := Fr.refl
  have b_x1 := ti_rng x1
  refine r_aload_n hC dX8_wave_0 0 rfl ?_
  refine r_iload_n hC dX8_wave_1 1 rfl ?_
  refine r_callV hC (As := [.int x1]) (rest := []) (ci := 8) (c_X8_isStory g (xL X) K len I J R hs a0 ka0 x1) mT_3_155 mT_1_1 mT_3_152 mT_3_154 mP_24 okX8_isStory ⟨by decide, by decide⟩ rfl (by show kO (K a0) = _; rw [ka0]; rfl) rfl rfl (Nat.le_of_ble_eq_true rfl) ⟨by decide, by decide⟩ dX8_wave_2 (aI0 (F := fun st M => P g X 2 5 [(0, .ref a0), (1, .int x1)] st _ _ M) (M := (K, len, I, J, R)) fun x1_ h1 => ?_)
  obtain ⟨k1_0, k1_1, k1_2⟩ := h1
  show P g X 2 5 [(0, .ref a0), (1, .int x1)] [.int x1_] _ _ (K, len, I, J, R)
  refine r_if_ne hC (tgt := 14) dX8_wave_5 (by decide) (fun c2 => ?_) (fun c2 => ?_)
  · refine r_aload_n hC dX8_wave_14 0 rfl ?_
    refine r_aload_n hC dX8_wave_15 0 rfl ?_
    refine r_iload_n hC dX8_wave_16 1 rfl ?_
    refine r_callV hC (As := [.int x1]) (rest := [.ref a0]) (ci := 8) (c_X8_courseOf g (xL X) K len I J R hs a0 ka0 x1 (by omega) (by omega)) mT_3_163 mT_1_1 mT_3_160 mT_3_162 mP_26 okX8_courseOf ⟨by decide, by decide⟩ rfl (by show kO (K a0) = _; rw [ka0]; rfl) rfl rfl (Nat.le_of_ble_eq_true rfl) ⟨by decide, by decide⟩ dX8_wave_17 (aR1 (F := fun st M => P g X 2 20 [(0, .ref a0), (1, .int x1)] st _ _ M) (M := (K, len, I, J, R)) fun a3_ I3 h3 => ?_)
    obtain ⟨hs3, hf3, k3_0⟩ := h3
    show P g X 2 20 [(0, .ref a0), (1, .int x1)] [.ref a3_, .ref a0] _ _ (K, len, I3, J, R)
    have hF3 : Fr K [(1, 5), (1, 6), (9, 12), (43, 999), (50, 999), (51, 999), (52, 999), (53, 999), (54, 999)] I I3 := hF.trans hf3 rfl rfl
    refine r_geti hC 6 (ci := 0) rfl u0_in (by decide) mT_2_38 dX8_wave_20 k3_0 rfl rfl (fun x4_ e4 => ?_)
    refine r_callV hC (As := [.int x4_]) (rest := []) (ci := 8) (c_X8_answer g (xL X) K len I3 J R hs3 a0 ka0 x4_) mT_3_115 mT_1_1 mT_3_112 mT_3_114 mP_21 okX8_answer ⟨by decide, by decide⟩ rfl (by show kO (K a0) = _; rw [ka0]; rfl) rfl rfl (Nat.le_of_ble_eq_true rfl) ⟨by decide, by decide⟩ dX8_wave_23 (aI1 (F := fun st M => P g X 2 26 [(0, .ref a0), (1, .int x1)] st _ _ M) (M := (K, len, I3, J, R)) fun x5_ I5 h5 => ?_)
    obtain ⟨hs5, hf5, k5_0, k5_1⟩ := h5
    show P g X 2 26 [(0, .ref a0), (1, .int x1)] [.int x5_] _ _ (K, len, I5, J, R)
    have hF5 : Fr K [(1, 5), (1, 6), (9, 12), (43, 999), (50, 999), (51, 999), (52, 999), (53, 999), (54, 999)] I I5 := hF3.trans hf5 rfl rfl
    exact r_iret hC hQ hlk hr rfl (by decide) (by decide) dX8_wave_26 ⟨_, _, rfl, rfl, ⟨hs5, hF5, (by omega)⟩⟩
  · refine r_aload_n hC dX8_wave_8 0 rfl ?_
    refine r_iconst hC (v := (1)) dX8_wave_9 (by decide) (by decide) (fun x6_ e6 t6 => ?_)
    refine r_callV hC (As := [.int x6_]) (rest := []) (ci := 8) (c_X8_refuse g (xL X) K len I J R hs a0 ka0 x6_) mT_2_133 mT_1_1 mT_2_130 mT_2_132 mP_0 okX8_refuse ⟨by decide, by decide⟩ rfl (by show kO (K a0) = _; rw [ka0]; rfl) rfl rfl (Nat.le_of_ble_eq_true rfl) ⟨by decide, by decide⟩ dX8_wave_10 (aI1 (F := fun st M => P g X 2 13 [(0, .ref a0), (1, .int x1)] st _ _ M) (M := (K, len, I, J, R)) fun x7_ I7 h7 => ?_)
    obtain ⟨hs7, hf7, k7_0, k7_1⟩ := h7
    show P g X 2 13 [(0, .ref a0), (1, .int x1)] [.int x7_] _ _ (K, len, I7, J, R)
    have hF7 : Fr K [(1, 5), (1, 6), (9, 12), (43, 999), (50, 999), (51, 999), (52, 999), (53, 999), (54, 999)] I I7 := hF.trans hf7 rfl rfl
    exact r_iret hC hQ hlk hr rfl (by decide) (by decide) dX8_wave_13 ⟨_, _, rfl, rfl, ⟨hs7, hF7, (by omega)⟩⟩
set_option maxHeartbeats 4000000 in
set_option maxRecDepth 100000 in
theorem c_X8_fits (g : GG) (l : Launch) (K len : Nat → Nat) (I : Nat → Nat → Int32) (J : Nat → Nat → Int64) (R : Nat → Nat → Option Nat) (hs : Sf K len I R) (a0 : Nat) (ka0 : K a0 = 9) : Ct g l yX8_fits cX8_fits 1 (Option.some Jvm.ClassFile.FieldType.int) rmX8_fits [.ref a0] (K, len, I, J, R) (pI1 (K, len, I, J, R) (fun r I' => Sf K len I' R ∧ Fr K [(1, 5), (1, 6), (9, 12), (43, 999), (50, 999), (51, 999), (52, 999), (53, 999), (54, 999), (67, 999)] I I' ∧ ((I' a0 12).toInt ≠ 4))) := by
  refine Ct_intro (by decide +kernel) (Nat.le_of_ble_eq_true rfl) (fun X hC hL hKK hNm hr hlk hQ => ?_)
  subst hL
  have hC : Cx g X cX8_fits "HillTap" 1 rmX8_fits := hC
  show P g X 1 0 [(0, .ref a0)] [] 0 0 (K, len, I, J, R)
  have hF : Fr K [(1, 5), (1, 6), (9, 12), (43, 999), (50, 999), (51, 999), (52, 999), (53, 999), (54, 999), (67, 999)] I I := Fr.refl
  refine r_aload_n hC dX8_fits_0 0 rfl ?_
  refine r_callV hC (As := []) (rest := []) (ci := 8) (c_X8_noHill g (xL X) K len I J R hs a0 ka0) mT_3_131 mT_1_1 mT_3_128 mT_3_130 mP_22 okX8_noHill ⟨by decide, by decide⟩ rfl (by show kO (K a0) = _; rw [ka0]; rfl) rfl rfl (Nat.le_of_ble_eq_true rfl) ⟨by decide, by decide⟩ dX8_fits_1 (aI0 (F := fun st M => P g X 1 4 [(0, .ref a0)] st _ _ M) (M := (K, len, I, J, R)) fun x1_ h1 => ?_)
  obtain ⟨k1_0, k1_1⟩ := h1
  show P g X 1 4 [(0, .ref a0)] [.int x1_] _ _ (K, len, I, J, R)
  refine r_if_eq hC (tgt := 13) dX8_fits_4 (by decide) (fun c2 => ?_) (fun c2 => ?_)
  · refine r_aload_n hC dX8_fits_13 0 rfl ?_
    refine r_callV hC (As := []) (rest := []) (ci := 8) (c_X8_findFits g (xL X) K len I J R hs a0 ka0) mT_3_226 mT_1_1 mT_3_223 mT_3_225 mP_33 okX8_findFits ⟨by decide, by decide⟩ rfl (by show kO (K a0) = _; rw [ka0]; rfl) rfl rfl (Nat.le_of_ble_eq_true rfl) ⟨by decide, by decide⟩ dX8_fits_14 (aV1 (F := fun st M => P g X 1 17 [(0, .ref a0)] st _ _ M) (M := (K, len, I, J, R)) fun I3 h3 => ?_)
    obtain ⟨hs3, hf3⟩ := h3
    show P g X 1 17 [(0, .ref a0)] [] _ _ (K, len, I3, J, R)
    have hF3 : Fr K [(1, 5), (1, 6), (9, 12), (43, 999), (50, 999), (51, 999), (52, 999), (53, 999), (54, 999), (67, 999)] I I3 := hF.trans hf3 rfl rfl
    refine r_aload_n hC dX8_fits_17 0 rfl ?_
    refine r_aload_n hC dX8_fits_18 0 rfl ?_
    refine r_bipush hC (v := (59)) dX8_fits_19 (by decide) (by decide) (fun x4_ e4 t4 => ?_)
    refine r_callV hC (As := [.int x4_]) (rest := [.ref a0]) (ci := 8) (c_X8_countFitsUpTo g (xL X) K len I3 J R hs3 a0 ka0 x4_) mT_3_239 mT_1_1 mT_3_236 mT_3_238 mP_34 okX8_countFitsUpTo ⟨by decide, by decide⟩ rfl (by show kO (K a0) = _; rw [ka0]; rfl) rfl rfl (Nat.le_of_ble_eq_true rfl) ⟨by decide, by decide⟩ dX8_fits_21 (aI0 (F := fun st M => P g X 1 24 [(0, .ref a0)] st _ _ M) (M := (K, len, I3, J, R)) fun x5_ h5 => ?_)
    skip
    show P g X 1 24 [(0, .ref a0)] [.int x5_, .ref a0] _ _ (K, len, I3, J, R)
    refine r_callV hC (As := [.int x5_]) (rest := []) (ci := 8) (c_X8_answer g (xL X) K len I3 J R hs3 a0 ka0 x5_) mT_3_115 mT_1_1 mT_3_112 mT_3_114 mP_21 okX8_answer ⟨by decide, by decide⟩ rfl (by show kO (K a0) = _; rw [ka0]; rfl) rfl rfl (Nat.le_of_ble_eq_true rfl) ⟨by decide, by decide⟩ dX8_fits_24 (aI1 (F := fun st M => P g X 1 27 [(0, .ref a0)] st _ _ M) (M := (K, len, I3, J, R)) fun x6_ I6 h6 => ?_)
    obtain ⟨hs6, hf6, k6_0, k6_1⟩ := h6
    show P g X 1 27 [(0, .ref a0)] [.int x6_] _ _ (K, len, I6, J, R)
    have hF6 : Fr K [(1, 5), (1, 6), (9, 12), (43, 999), (50, 999), (51, 999), (52, 999), (53, 999), (54, 999), (67, 999)] I I6 := hF3.trans hf6 rfl rfl
    exact r_iret hC hQ hlk hr rfl (by decide) (by decide) dX8_fits_27 ⟨_, _, rfl, rfl, ⟨hs6, hF6, (by omega)⟩⟩
  · refine r_aload_n hC dX8_fits_7 0 rfl ?_
    refine r_iconst hC (v := (1)) dX8_fits_8 (by decide) (by decide) (fun x7_ e7 t7 => ?_)
    refine r_callV hC (As := [.int x7_]) (rest := []) (ci := 8) (c_X8_refuse g (xL X) K len I J R hs a0 ka0 x7_) mT_2_133 mT_1_1 mT_2_130 mT_2_132 mP_0 okX8_refuse ⟨by decide, by decide⟩ rfl (by show kO (K a0) = _; rw [ka0]; rfl) rfl rfl (Nat.le_of_ble_eq_true rfl) ⟨by decide, by decide⟩ dX8_fits_9 (aI1 (F := fun st M => P g X 1 12 [(0, .ref a0)] st _ _ M) (M := (K, len, I, J, R)) fun x8_ I8 h8 => ?_)
    obtain ⟨hs8, hf8, k8_0, k8_1⟩ := h8
    show P g X 1 12 [(0, .ref a0)] [.int x8_] _ _ (K, len, I8, J, R)
    have hF8 : Fr K [(1, 5), (1, 6), (9, 12), (43, 999), (50, 999), (51, 999), (52, 999), (53, 999), (54, 999), (67, 999)] I I8 := hF.trans hf8 rfl rfl
    exact r_iret hC hQ hlk hr rfl (by decide) (by decide) dX8_fits_12 ⟨_, _, rfl, rfl, ⟨hs8, hF8, (by omega)⟩⟩
set_option maxHeartbeats 4000000 in
set_option maxRecDepth 100000 in
theorem c_X8_fit (g : GG) (l : Launch) (K len : Nat → Nat) (I : Nat → Nat → Int32) (J : Nat → Nat → Int64) (R : Nat → Nat → Option Nat) (hs : Sf K len I R) (a0 : Nat) (ka0 : K a0 = 9) (x1 : Int32) : Ct g l yX8_fit cX8_fit 4 (Option.some Jvm.ClassFile.FieldType.int) rmX8_fit [.ref a0, .int x1] (K, len, I, J, R) (pI1 (K, len, I, J, R) (fun r I' => Sf K len I' R ∧ Fr K [(1, 5), (1, 6), (9, 12), (43, 999), (50, 999), (51, 999), (52, 999), (53, 999), (54, 999), (67, 999)] I I' ∧ ((I' a0 12).toInt ≠ 4))) := by
  refine Ct_intro (by decide +kernel) (Nat.le_of_ble_eq_true rfl) (fun X hC hL hKK hNm hr hlk hQ => ?_)
  subst hL
  have hC : Cx g X cX8_fit "HillTap" 4 rmX8_fit := hC
  show P g X 4 0 [(0, .ref a0), (1, .int x1)] [] 0 0 (K, len, I, J, R)
  have hF : Fr K [(1, 5), (1, 6), (9, 12), (43, 999), (50, 999), (51, 999), (52, 999), (53, 999), (54, 999), (67, 999)] I I := Fr.refl
  have b_x1 := ti_rng x1
  refine r_aload_n hC dX8_fit_0 0 rfl ?_
  refine r_callV hC (As := []) (rest := []) (ci := 8) (c_X8_findFits g (xL X) K len I J R hs a0 ka0) mT_3_226 mT_1_1 mT_3_223 mT_3_225 mP_33 okX8_findFits ⟨by decide, by decide⟩ rfl (by show kO (K a0) = _; rw [ka0]; rfl) rfl rfl (Nat.le_of_ble_eq_true rfl) ⟨by decide, by decide⟩ dX8_fit_1 (aV1 (F := fun st M => P g X 4 4 [(0, .ref a0), (1, .int x1)] st _ _ M) (M := (K, len, I, J, R)) fun I1 h1 => ?_)
  obtain ⟨hs1, hf1⟩ := h1
  show P g X 4 4 [(0, .ref a0), (1, .int x1)] [] _ _ (K, len, I1, J, R)
  have hF1 : Fr K [(1, 5), (1, 6), (9, 12), (43, 999), (50, 999), (51, 999), (52, 999), (53, 999), (54, 999), (67, 999)] I I1 := hF.trans hf1 rfl rfl
  refine r_iconst hC (v := (0)) dX8_fit_4 (by decide) (by decide) (fun x2_ e2 t2 => ?_)
  refine r_istore_n hC (lv' := [(2, .int x2_), (0, .ref a0), (1, .int x1)]) dX8_fit_5 (by decide) rfl ?_
  refine r_iconst hC (v := (0)) dX8_fit_6 (by decide) (by decide) (fun x3_ e3 t3 => ?_)
  refine r_istore_n hC (lv' := [(3, .int x3_), (2, .int x2_), (0, .ref a0), (1, .int x1)]) dX8_fit_7 (by decide) rfl ?_
  have LP4 : ∀ (mu : Nat) (x4_3 : Int32) (x4_2 : Int32) (I4 : Nat → Nat → Int32) (hs4 : Sf K len I4 R) (hF4 : Fr K [(1, 5), (1, 6), (9, 12), (43, 999), (50, 999), (51, 999), (52, 999), (53, 999), (54, 999), (67, 999)] I I4) (v4_0 : 0 ≤ x4_3.toInt) (v4_1 : x4_3.toInt ≤ 6), (6 - x4_3.toInt).toNat = mu → P g X 4 8 [(0, .ref a0), (1, .int x1), (2, .int x4_2), (3, .int x4_3)] [] 0 0 (K, len, I4, J, R) := by
    intro mu; induction mu using Nat.strongRecOn with | ind mu ih => ?_
    intro x4_3 x4_2 I4 hs4 hF4 v4_0 v4_1 hmu
    have ih4 := ih
    clear ih
    have hmu4 := hmu
    clear hmu
    refine r_iload_n hC dX8_fit_8 3 rfl ?_
    refine r_aload_n hC dX8_fit_9 0 rfl ?_
    obtain ⟨a5_, hb5, hk5⟩ := hs4.obj ka0 2 2 (by decide)
    refine r_getr hC 2 (ci := 8) rfl u8_in (by decide) mT_2_80 dX8_fit_10 ka0 rfl rfl hb5 ?_
    refine r_geti hC 6 (ci := 1) rfl u1_in (by decide) mT_1_202 dX8_fit_13 hk5 rfl rfl (fun x6_ e6 => ?_)
    have r6 := hs4.rng hk5 rfl e6
    refine r_icmp_ge hC (tgt := 47) dX8_fit_16 (by decide) (fun c7 => ?_) (fun c7 => ?_)
    · refine r_aload_n hC dX8_fit_47 0 rfl ?_
      refine r_iconst hC (v := (1)) dX8_fit_48 (by decide) (by decide) (fun x8_ e8 t8 => ?_)
      refine r_callV hC (As := [.int x8_]) (rest := []) (ci := 8) (c_X8_refuse g (xL X) K len I4 J R hs4 a0 ka0 x8_) mT_2_133 mT_1_1 mT_2_130 mT_2_132 mP_0 okX8_refuse ⟨by decide, by decide⟩ rfl (by show kO (K a0) = _; rw [ka0]; rfl) rfl rfl (Nat.le_of_ble_eq_true rfl) ⟨by decide, by decide⟩ dX8_fit_49 (aI1 (F := fun st M => P g X 4 52 [(0, .ref a0), (1, .int x1), (2, .int x4_2), (3, .int x4_3)] st _ _ M) (M := (K, len, I4, J, R)) fun x9_ I9 h9 => ?_)
      obtain ⟨hs9, hf9, k9_0, k9_1⟩ := h9
      show P g X 4 52 [(0, .ref a0), (1, .int x1), (2, .int x4_2), (3, .int x4_3)] [.int x9_] _ _ (K, len, I9, J, R)
      have hF9 : Fr K [(1, 5), (1, 6), (9, 12), (43, 999), (50, 999), (51, 999), (52, 999), (53, 999), (54, 999), (67, 999)] I I9 := hF4.trans hf9 rfl rfl
      exact r_iret hC hQ hlk hr rfl (by decide) (by decide) dX8_fit_52 ⟨_, _, rfl, rfl, ⟨hs9, hF9, (by omega)⟩⟩
    · refine r_aload_n hC dX8_fit_19 0 rfl ?_
      refine r_iload_n hC dX8_fit_20 3 rfl ?_
      refine r_callV hC (As := [.int x4_3]) (rest := []) (ci := 8) (c_X8_isFit g (xL X) K len I4 J R hs4 a0 ka0 x4_3 (by omega) (by omega)) mT_4_7 mT_1_1 mT_4_4 mT_4_6 mP_35 okX8_isFit ⟨by decide, by decide⟩ rfl (by show kO (K a0) = _; rw [ka0]; rfl) rfl rfl (Nat.le_of_ble_eq_true rfl) ⟨by decide, by decide⟩ dX8_fit_21 (aI0 (F := fun st M => P g X 4 24 [(0, .ref a0), (1, .int x1), (2, .int x4_2), (3, .int x4_3)] st _ _ M) (M := (K, len, I4, J, R)) fun x10_ h10 => ?_)
      obtain ⟨k10_0, k10_1⟩ := h10
      show P g X 4 24 [(0, .ref a0), (1, .int x1), (2, .int x4_2), (3, .int x4_3)] [.int x10_] _ _ (K, len, I4, J, R)
      refine r_if_eq hC (tgt := 41) dX8_fit_24 (by decide) (fun c11 => ?_) (fun c11 => ?_)
      · obtain ⟨x12_, e12⟩ : ∃ z : Int32, z = x4_3 + Int32.ofInt (1) := ⟨_, rfl⟩
        refine r_iinc hC (j := 3) (v := x12_) (lv' := [(3, .int x12_), (0, .ref a0), (1, .int x1), (2, .int x4_2)]) dX8_fit_41 rfl (by rw [e12]) (by decide) rfl ?_
        try have t12 : x12_.toInt = x4_3.toInt + (1) := by rw [e12]; exact (ti_add (b := Int32.ofInt (1)) (by show _ ≤ _ + (1 : Int); omega) (by show _ + (1 : Int) ≤ _; omega))
        refine r_goto hC (tgt := 8) dX8_fit_44 (by decide) ?_
        refine r_sub [1, 2, 3, 0] rfl ?_
        exact ih4 ((6 - x12_.toInt).toNat) (by omega) x12_ x4_2 I4 hs4 hF4 (by omega) (by omega) rfl
      · refine r_iload_n hC dX8_fit_27 2 rfl ?_
        refine r_iload_n hC dX8_fit_28 1 rfl ?_
        refine r_icmp_ne hC (tgt := 38) dX8_fit_29 (by decide) (fun c13 => ?_) (fun c13 => ?_)
        · obtain ⟨x14_, e14⟩ : ∃ z : Int32, z = x4_2 + Int32.ofInt (1) := ⟨_, rfl⟩
          refine r_iinc hC (j := 2) (v := x14_) (lv' := [(2, .int x14_), (0, .ref a0), (1, .int x1), (3, .int x4_3)]) dX8_fit_38 rfl (by rw [e14]) (by decide) rfl ?_
          try have t14 : x14_.toInt = x4_2.toInt + (1) := by rw [e14]; exact (ti_add (b := Int32.ofInt (1)) (by show _ ≤ _ + (1 : Int); omega) (by show _ + (1 : Int) ≤ _; omega))
          obtain ⟨x15_, e15⟩ : ∃ z : Int32, z = x4_3 + Int32.ofInt (1) := ⟨_, rfl⟩
          refine r_iinc hC (j := 3) (v := x15_) (lv' := [(3, .int x15_), (2, .int x14_), (0, .ref a0), (1, .int x1)]) dX8_fit_41 rfl (by rw [e15]) (by decide) rfl ?_
          try have t15 : x15_.toInt = x4_3.toInt + (1) := by rw [e15]; exact (ti_add (b := Int32.ofInt (1)) (by show _ ≤ _ + (1 : Int); omega) (by show _ + (1 : Int) ≤ _; omega))
          refine r_goto hC (tgt := 8) dX8_fit_44 (by decide) ?_
          refine r_sub [2, 3, 1, 0] rfl ?_
          exact ih4 ((6 - x15_.toInt).toNat) (by omega) x15_ x14_ I4 hs4 hF4 (by omega) (by omega) rfl
        · refine r_aload_n hC dX8_fit_32 0 rfl ?_
          refine r_iload_n hC dX8_fit_33 3 rfl ?_
          refine r_callV hC (As := [.int x4_3]) (rest := []) (ci := 8) (c_X8_answer g (xL X) K len I4 J R hs4 a0 ka0 x4_3) mT_3_115 mT_1_1 mT_3_112 mT_3_114 mP_21 okX8_answer ⟨by decide, by decide⟩ rfl (by show kO (K a0) = _; rw [ka0]; rfl) rfl rfl (Nat.le_of_ble_eq_true rfl) ⟨by decide, by decide⟩ dX8_fit_34 (aI1 (F := fun st M => P g X 4 37 [(0, .ref a0), (1, .int x1), (2, .int x4_2), (3, .int x4_3)] st _ _ M) (M := (K, len, I4, J, R)) fun x16_ I16 h16 => ?_)
          obtain ⟨hs16, hf16, k16_0, k16_1⟩ := h16
          show P g X 4 37 [(0, .ref a0), (1, .int x1), (2, .int x4_2), (3, .int x4_3)] [.int x16_] _ _ (K, len, I16, J, R)
          have hF16 : Fr K [(1, 5), (1, 6), (9, 12), (43, 999), (50, 999), (51, 999), (52, 999), (53, 999), (54, 999), (67, 999)] I I16 := hF4.trans hf16 rfl rfl
          exact r_iret hC hQ hlk hr rfl (by decide) (by decide) dX8_fit_37 ⟨_, _, rfl, rfl, ⟨hs16, hF16, (by omega)⟩⟩
  refine r_sub [2, 3, 1, 0] rfl ?_
  exact LP4 _ x3_ x2_ I1 hs1 hF1 (by omega) (by omega) rfl
set_option maxHeartbeats 4000000 in
set_option maxRecDepth 100000 in
theorem c_X8_weight (g : GG) (l : Launch) (K len : Nat → Nat) (I : Nat → Nat → Int32) (J : Nat → Nat → Int64) (R : Nat → Nat → Option Nat) (hs : Sf K len I R) (a0 : Nat) (ka0 : K a0 = 9) (x1 : Int32) : Ct g l yX8_weight cX8_weight 2 (Option.some Jvm.ClassFile.FieldType.int) rmX8_weight [.ref a0, .int x1] (K, len, I, J, R) (pI1 (K, len, I, J, R) (fun r I' => Sf K len I' R ∧ Fr K [(1, 5), (1, 6), (9, 12), (43, 999), (50, 999), (51, 999), (52, 999), (53, 999), (54, 999), (67, 999)] I I' ∧ ((I' a0 12).toInt ≠ 4))) := by
  refine Ct_intro (by decide +kernel) (Nat.le_of_ble_eq_true rfl) (fun X hC hL hKK hNm hr hlk hQ => ?_)
  subst hL
  have hC : Cx g X cX8_weight "HillTap" 2 rmX8_weight := hC
  show P g X 2 0 [(0, .ref a0), (1, .int x1)] [] 0 0 (K, len, I, J, R)
  have hF : Fr K [(1, 5), (1, 6), (9, 12), (43, 999), (50, 999), (51, 999), (52, 999), (53, 999), (54, 999), (67, 999)] I I := Fr.refl
  have b_x1 := ti_rng x1
  refine r_iload_n hC dX8_weight_0 1 rfl ?_
  refine r_iconst hC (v := (-1)) dX8_weight_1 (by decide) (by decide) (fun x1_ e1 t1 => ?_)
  refine r_icmp_eq hC (tgt := 19) dX8_weight_2 (by decide) (fun c2 => ?_) (fun c2 => ?_)
  · refine r_aload_n hC dX8_weight_19 0 rfl ?_
    refine r_callV hC (As := []) (rest := []) (ci := 8) (c_X8_findFits g (xL X) K len I J R hs a0 ka0) mT_3_226 mT_1_1 mT_3_223 mT_3_225 mP_33 okX8_findFits ⟨by decide, by decide⟩ rfl (by show kO (K a0) = _; rw [ka0]; rfl) rfl rfl (Nat.le_of_ble_eq_true rfl) ⟨by decide, by decide⟩ dX8_weight_20 (aV1 (F := fun st M => P g X 2 23 [(0, .ref a0), (1, .int x1)] st _ _ M) (M := (K, len, I, J, R)) fun I3 h3 => ?_)
    obtain ⟨hs3, hf3⟩ := h3
    show P g X 2 23 [(0, .ref a0), (1, .int x1)] [] _ _ (K, len, I3, J, R)
    have hF3 : Fr K [(1, 5), (1, 6), (9, 12), (43, 999), (50, 999), (51, 999), (52, 999), (53, 999), (54, 999), (67, 999)] I I3 := hF.trans hf3 rfl rfl
    refine r_iload_n hC dX8_weight_23 1 rfl ?_
    refine r_iconst hC (v := (-1)) dX8_weight_24 (by decide) (by decide) (fun x4_ e4 t4 => ?_)
    refine r_icmp_ne hC (tgt := 37) dX8_weight_25 (by decide) (fun c5 => ?_) (fun c5 => ?_)
    · refine r_aload_n hC dX8_weight_37 0 rfl ?_
      refine r_aload_n hC dX8_weight_38 0 rfl ?_
      refine r_iload_n hC dX8_weight_39 1 rfl ?_
      refine r_callV hC (As := [.int x1]) (rest := [.ref a0]) (ci := 8) (c_X8_isFit g (xL X) K len I3 J R hs3 a0 ka0 x1 (by omega) (by omega)) mT_4_7 mT_1_1 mT_4_4 mT_4_6 mP_35 okX8_isFit ⟨by decide, by decide⟩ rfl (by show kO (K a0) = _; rw [ka0]; rfl) rfl rfl (Nat.le_of_ble_eq_true rfl) ⟨by decide, by decide⟩ dX8_weight_40 (aI0 (F := fun st M => P g X 2 43 [(0, .ref a0), (1, .int x1)] st _ _ M) (M := (K, len, I3, J, R)) fun x6_ h6 => ?_)
      obtain ⟨k6_0, k6_1⟩ := h6
      show P g X 2 43 [(0, .ref a0), (1, .int x1)] [.int x6_, .ref a0] _ _ (K, len, I3, J, R)
      refine r_if_eq hC (tgt := 61) dX8_weight_43 (by decide) (fun c7 => ?_) (fun c7 => ?_)
      · refine r_iconst hC (v := (0)) dX8_weight_61 (by decide) (by decide) (fun x8_ e8 t8 => ?_)
        refine r_callV hC (As := [.int x8_]) (rest := []) (ci := 8) (c_X8_answer g (xL X) K len I3 J R hs3 a0 ka0 x8_) mT_3_115 mT_1_1 mT_3_112 mT_3_114 mP_21 okX8_answer ⟨by decide, by decide⟩ rfl (by show kO (K a0) = _; rw [ka0]; rfl) rfl rfl (Nat.le_of_ble_eq_true rfl) ⟨by decide, by decide⟩ dX8_weight_62 (aI1 (F := fun st M => P g X 2 65 [(0, .ref a0), (1, .int x1)] st _ _ M) (M := (K, len, I3, J, R)) fun x9_ I9 h9 => ?_)
        obtain ⟨hs9, hf9, k9_0, k9_1⟩ := h9
        show P g X 2 65 [(0, .ref a0), (1, .int x1)] [.int x9_] _ _ (K, len, I9, J, R)
        have hF9 : Fr K [(1, 5), (1, 6), (9, 12), (43, 999), (50, 999), (51, 999), (52, 999), (53, 999), (54, 999), (67, 999)] I I9 := hF3.trans hf9 rfl rfl
        exact r_iret hC hQ hlk hr rfl (by decide) (by decide) dX8_weight_65 ⟨_, _, rfl, rfl, ⟨hs9, hF9, (by omega)⟩⟩
      · refine r_aload_n hC dX8_weight_46 0 rfl ?_
        obtain ⟨a10_, hb10, hk10⟩ := hs3.obj ka0 2 2 (by decide)
        refine r_getr hC 2 (ci := 8) rfl u8_in (by decide) mT_2_80 dX8_weight_47 ka0 rfl rfl hb10 ?_
        obtain ⟨a11_, hb11, hk11, hn11⟩ := hs3.row hk10 7 45 6 (by decide) (by decide)
        refine r_getr hC 7 (ci := 1) rfl u1_in (by decide) mT_1_205 dX8_weight_50 hk10 rfl rfl hb11 ?_
        refine r_iload_n hC dX8_weight_53 1 rfl ?_
        obtain ⟨a12_, hb12, hk12⟩ := hs3.sto hk11 (i := x1) (by omega) (by omega)
        refine x_aaload (C := "HillTap$Story") hC hk11 hn11 (by decide) rfl (by decide) dX8_weight_54 (by omega) (by omega) hb12 ?_
        refine r_geti hC 0 (ci := 4) rfl u4_in (by decide) mT_1_161 dX8_weight_55 hk12 rfl rfl (fun x13_ e13 => ?_)
        refine r_goto hC (tgt := 62) dX8_weight_58 (by decide) ?_
        refine r_callV hC (As := [.int x13_]) (rest := []) (ci := 8) (c_X8_answer g (xL X) K len I3 J R hs3 a0 ka0 x13_) mT_3_115 mT_1_1 mT_3_112 mT_3_114 mP_21 okX8_answer ⟨by decide, by decide⟩ rfl (by show kO (K a0) = _; rw [ka0]; rfl) rfl rfl (Nat.le_of_ble_eq_true rfl) ⟨by decide, by decide⟩ dX8_weight_62 (aI1 (F := fun st M => P g X 2 65 [(0, .ref a0), (1, .int x1)] st _ _ M) (M := (K, len, I3, J, R)) fun x14_ I14 h14 => ?_)
        obtain ⟨hs14, hf14, k14_0, k14_1⟩ := h14
        show P g X 2 65 [(0, .ref a0), (1, .int x1)] [.int x14_] _ _ (K, len, I14, J, R)
        have hF14 : Fr K [(1, 5), (1, 6), (9, 12), (43, 999), (50, 999), (51, 999), (52, 999), (53, 999), (54, 999), (67, 999)] I I14 := hF3.trans hf14 rfl rfl
        exact r_iret hC hQ hlk hr rfl (by decide) (by decide) dX8_weight_65 ⟨_, _, rfl, rfl, ⟨hs14, hF14, (by omega)⟩⟩
    · refine r_aload_n hC dX8_weight_28 0 rfl ?_
      refine r_aload_n hC dX8_weight_29 0 rfl ?_
      refine r_callV hC (As := []) (rest := [.ref a0]) (ci := 8) (c_X8_weightOfFits g (xL X) K len I3 J R hs3 a0 ka0) mT_4_15 mT_1_1 mT_4_12 mT_4_14 mP_36 okX8_weightOfFits ⟨by decide, by decide⟩ rfl (by show kO (K a0) = _; rw [ka0]; rfl) rfl rfl (Nat.le_of_ble_eq_true rfl) ⟨by decide, by decide⟩ dX8_weight_30 (aI0 (F := fun st M => P g X 2 33 [(0, .ref a0), (1, .int x1)] st _ _ M) (M := (K, len, I3, J, R)) fun x15_ h15 => ?_)
      skip
      show P g X 2 33 [(0, .ref a0), (1, .int x1)] [.int x15_, .ref a0] _ _ (K, len, I3, J, R)
      refine r_callV hC (As := [.int x15_]) (rest := []) (ci := 8) (c_X8_answer g (xL X) K len I3 J R hs3 a0 ka0 x15_) mT_3_115 mT_1_1 mT_3_112 mT_3_114 mP_21 okX8_answer ⟨by decide, by decide⟩ rfl (by show kO (K a0) = _; rw [ka0]; rfl) rfl rfl (Nat.le_of_ble_eq_true rfl) ⟨by decide, by decide⟩ dX8_weight_33 (aI1 (F := fun st M => P g X 2 36 [(0, .ref a0), (1, .int x1)] st _ _ M) (M := (K, len, I3, J, R)) fun x16_ I16 h16 => ?_)
      obtain ⟨hs16, hf16, k16_0, k16_1⟩ := h16
      show P g X 2 36 [(0, .ref a0), (1, .int x1)] [.int x16_] _ _ (K, len, I16, J, R)
      have hF16 : Fr K [(1, 5), (1, 6), (9, 12), (43, 999), (50, 999), (51, 999), (52, 999), (53, 999), (54, 999), (67, 999)] I I16 := hF3.trans hf16 rfl rfl
      exact r_iret hC hQ hlk hr rfl (by decide) (by decide) dX8_weight_36 ⟨_, _, rfl, rfl, ⟨hs16, hF16, (by omega)⟩⟩
  · refine r_aload_n hC dX8_weight_5 0 rfl ?_
    refine r_iload_n hC dX8_weight_6 1 rfl ?_
    refine r_callV hC (As := [.int x1]) (rest := []) (ci := 8) (c_X8_isStory g (xL X) K len I J R hs a0 ka0 x1) mT_3_155 mT_1_1 mT_3_152 mT_3_154 mP_24 okX8_isStory ⟨by decide, by decide⟩ rfl (by show kO (K a0) = _; rw [ka0]; rfl) rfl rfl (Nat.le_of_ble_eq_true rfl) ⟨by decide, by decide⟩ dX8_weight_7 (aI0 (F := fun st M => P g X 2 10 [(0, .ref a0), (1, .int x1)] st _ _ M) (M := (K, len, I, J, R)) fun x17_ h17 => ?_)
    obtain ⟨k17_0, k17_1, k17_2⟩ := h17
    show P g X 2 10 [(0, .ref a0), (1, .int x1)] [.int x17_] _ _ (K, len, I, J, R)
    refine r_if_ne hC (tgt := 19) dX8_weight_10 (by decide) (fun c18 => ?_) (fun c18 => ?_)
    · refine r_aload_n hC dX8_weight_19 0 rfl ?_
      refine r_callV hC (As := []) (rest := []) (ci := 8) (c_X8_findFits g (xL X) K len I J R hs a0 ka0) mT_3_226 mT_1_1 mT_3_223 mT_3_225 mP_33 okX8_findFits ⟨by decide, by decide⟩ rfl (by show kO (K a0) = _; rw [ka0]; rfl) rfl rfl (Nat.le_of_ble_eq_true rfl) ⟨by decide, by decide⟩ dX8_weight_20 (aV1 (F := fun st M => P g X 2 23 [(0, .ref a0), (1, .int x1)] st _ _ M) (M := (K, len, I, J, R)) fun I19 h19 => ?_)
      obtain ⟨hs19, hf19⟩ := h19
      show P g X 2 23 [(0, .ref a0), (1, .int x1)] [] _ _ (K, len, I19, J, R)
      have hF19 : Fr K [(1, 5), (1, 6), (9, 12), (43, 999), (50, 999), (51, 999), (52, 999), (53, 999), (54, 999), (67, 999)] I I19 := hF.trans hf19 rfl rfl
      refine r_iload_n hC dX8_weight_23 1 rfl ?_
      refine r_iconst hC (v := (-1)) dX8_weight_24 (by decide) (by decide) (fun x20_ e20 t20 => ?_)
      refine r_icmp_ne hC (tgt := 37) dX8_weight_25 (by decide) (fun c21 => ?_) (fun c21 => ?_)
      · refine r_aload_n hC dX8_weight_37 0 rfl ?_
        refine r_aload_n hC dX8_weight_38 0 rfl ?_
        refine r_iload_n hC dX8_weight_39 1 rfl ?_
        refine r_callV hC (As := [.int x1]) (rest := [.ref a0]) (ci := 8) (c_X8_isFit g (xL X) K len I19 J R hs19 a0 ka0 x1 (by omega) (by omega)) mT_4_7 mT_1_1 mT_4_4 mT_4_6 mP_35 okX8_isFit ⟨by decide, by decide⟩ rfl (by show kO (K a0) = _; rw [ka0]; rfl) rfl rfl (Nat.le_of_ble_eq_true rfl) ⟨by decide, by decide⟩ dX8_weight_40 (aI0 (F := fun st M => P g X 2 43 [(0, .ref a0), (1, .int x1)] st _ _ M) (M := (K, len, I19, J, R)) fun x22_ h22 => ?_)
        obtain ⟨k22_0, k22_1⟩ := h22
        show P g X 2 43 [(0, .ref a0), (1, .int x1)] [.int x22_, .ref a0] _ _ (K, len, I19, J, R)
        refine r_if_eq hC (tgt := 61) dX8_weight_43 (by decide) (fun c23 => ?_) (fun c23 => ?_)
        · refine r_iconst hC (v := (0)) dX8_weight_61 (by decide) (by decide) (fun x24_ e24 t24 => ?_)
          refine r_callV hC (As := [.int x24_]) (rest := []) (ci := 8) (c_X8_answer g (xL X) K len I19 J R hs19 a0 ka0 x24_) mT_3_115 mT_1_1 mT_3_112 mT_3_114 mP_21 okX8_answer ⟨by decide, by decide⟩ rfl (by show kO (K a0) = _; rw [ka0]; rfl) rfl rfl (Nat.le_of_ble_eq_true rfl) ⟨by decide, by decide⟩ dX8_weight_62 (aI1 (F := fun st M => P g X 2 65 [(0, .ref a0), (1, .int x1)] st _ _ M) (M := (K, len, I19, J, R)) fun x25_ I25 h25 => ?_)
          obtain ⟨hs25, hf25, k25_0, k25_1⟩ := h25
          show P g X 2 65 [(0, .ref a0), (1, .int x1)] [.int x25_] _ _ (K, len, I25, J, R)
          have hF25 : Fr K [(1, 5), (1, 6), (9, 12), (43, 999), (50, 999), (51, 999), (52, 999), (53, 999), (54, 999), (67, 999)] I I25 := hF19.trans hf25 rfl rfl
          exact r_iret hC hQ hlk hr rfl (by decide) (by decide) dX8_weight_65 ⟨_, _, rfl, rfl, ⟨hs25, hF25, (by omega)⟩⟩
        · refine r_aload_n hC dX8_weight_46 0 rfl ?_
          obtain ⟨a26_, hb26, hk26⟩ := hs19.obj ka0 2 2 (by decide)
          refine r_getr hC 2 (ci := 8) rfl u8_in (by decide) mT_2_80 dX8_weight_47 ka0 rfl rfl hb26 ?_
          obtain ⟨a27_, hb27, hk27, hn27⟩ := hs19.row hk26 7 45 6 (by decide) (by decide)
          refine r_getr hC 7 (ci := 1) rfl u1_in (by decide) mT_1_205 dX8_weight_50 hk26 rfl rfl hb27 ?_
          refine r_iload_n hC dX8_weight_53 1 rfl ?_
          obtain ⟨a28_, hb28, hk28⟩ := hs19.sto hk27 (i := x1) (by omega) (by omega)
          refine x_aaload (C := "HillTap$Story") hC hk27 hn27 (by decide) rfl (by decide) dX8_weight_54 (by omega) (by omega) hb28 ?_
          refine r_geti hC 0 (ci := 4) rfl u4_in (by decide) mT_1_161 dX8_weight_55 hk28 rfl rfl (fun x29_ e29 => ?_)
          refine r_goto hC (tgt := 62) dX8_weight_58 (by decide) ?_
          refine r_callV hC (As := [.int x29_]) (rest := []) (ci := 8) (c_X8_answer g (xL X) K len I19 J R hs19 a0 ka0 x29_) mT_3_115 mT_1_1 mT_3_112 mT_3_114 mP_21 okX8_answer ⟨by decide, by decide⟩ rfl (by show kO (K a0) = _; rw [ka0]; rfl) rfl rfl (Nat.le_of_ble_eq_true rfl) ⟨by decide, by decide⟩ dX8_weight_62 (aI1 (F := fun st M => P g X 2 65 [(0, .ref a0), (1, .int x1)] st _ _ M) (M := (K, len, I19, J, R)) fun x30_ I30 h30 => ?_)
          obtain ⟨hs30, hf30, k30_0, k30_1⟩ := h30
          show P g X 2 65 [(0, .ref a0), (1, .int x1)] [.int x30_] _ _ (K, len, I30, J, R)
          have hF30 : Fr K [(1, 5), (1, 6), (9, 12), (43, 999), (50, 999), (51, 999), (52, 999), (53, 999), (54, 999), (67, 999)] I I30 := hF19.trans hf30 rfl rfl
          exact r_iret hC hQ hlk hr rfl (by decide) (by decide) dX8_weight_65 ⟨_, _, rfl, rfl, ⟨hs30, hF30, (by omega)⟩⟩
      · refine r_aload_n hC dX8_weight_28 0 rfl ?_
        refine r_aload_n hC dX8_weight_29 0 rfl ?_
        refine r_callV hC (As := []) (rest := [.ref a0]) (ci := 8) (c_X8_weightOfFits g (xL X) K len I19 J R hs19 a0 ka0) mT_4_15 mT_1_1 mT_4_12 mT_4_14 mP_36 okX8_weightOfFits ⟨by decide, by decide⟩ rfl (by show kO (K a0) = _; rw [ka0]; rfl) rfl rfl (Nat.le_of_ble_eq_true rfl) ⟨by decide, by decide⟩ dX8_weight_30 (aI0 (F := fun st M => P g X 2 33 [(0, .ref a0), (1, .int x1)] st _ _ M) (M := (K, len, I19, J, R)) fun x31_ h31 => ?_)
        skip
        show P g X 2 33 [(0, .ref a0), (1, .int x1)] [.int x31_, .ref a0] _ _ (K, len, I19, J, R)
        refine r_callV hC (As := [.int x31_]) (rest := []) (ci := 8) (c_X8_answer g (xL X) K len I19 J R hs19 a0 ka0 x31_) mT_3_115 mT_1_1 mT_3_112 mT_3_114 mP_21 okX8_answer ⟨by decide, by decide⟩ rfl (by show kO (K a0) = _; rw [ka0]; rfl) rfl rfl (Nat.le_of_ble_eq_true rfl) ⟨by decide, by decide⟩ dX8_weight_33 (aI1 (F := fun st M => P g X 2 36 [(0, .ref a0), (1, .int x1)] st _ _ M) (M := (K, len, I19, J, R)) fun x32_ I32 h32 => ?_)
        obtain ⟨hs32, hf32, k32_0, k32_1⟩ := h32
        show P g X 2 36 [(0, .ref a0), (1, .int x1)] [.int x32_] _ _ (K, len, I32, J, R)
        have hF32 : Fr K [(1, 5), (1, 6), (9, 12), (43, 999), (50, 999), (51, 999), (52, 999), (53, 999), (54, 999), (67, 999)] I I32 := hF19.trans hf32 rfl rfl
        exact r_iret hC hQ hlk hr rfl (by decide) (by decide) dX8_weight_36 ⟨_, _, rfl, rfl, ⟨hs32, hF32, (by omega)⟩⟩
    · refine r_aload_n hC dX8_weight_13 0 rfl ?_
      refine r_iconst hC (v := (1)) dX8_weight_14 (by decide) (by decide) (fun x33_ e33 t33 => ?_)
      refine r_callV hC (As := [.int x33_]) (rest := []) (ci := 8) (c_X8_refuse g (xL X) K len I J R hs a0 ka0 x33_) mT_2_133 mT_1_1 mT_2_130 mT_2_132 mP_0 okX8_refuse ⟨by decide, by decide⟩ rfl (by show kO (K a0) = _; rw [ka0]; rfl) rfl rfl (Nat.le_of_ble_eq_true rfl) ⟨by decide, by decide⟩ dX8_weight_15 (aI1 (F := fun st M => P g X 2 18 [(0, .ref a0), (1, .int x1)] st _ _ M) (M := (K, len, I, J, R)) fun x34_ I34 h34 => ?_)
      obtain ⟨hs34, hf34, k34_0, k34_1⟩ := h34
      show P g X 2 18 [(0, .ref a0), (1, .int x1)] [.int x34_] _ _ (K, len, I34, J, R)
      have hF34 : Fr K [(1, 5), (1, 6), (9, 12), (43, 999), (50, 999), (51, 999), (52, 999), (53, 999), (54, 999), (67, 999)] I I34 := hF.trans hf34 rfl rfl
      exact r_iret hC hQ hlk hr rfl (by decide) (by decide) dX8_weight_18 ⟨_, _, rfl, rfl, ⟨hs34, hF34, (by omega)⟩⟩
set_option maxHeartbeats 4000000 in
set_option maxRecDepth 100000 in
theorem c_X8_clear (g : GG) (l : Launch) (K len : Nat → Nat) (I : Nat → Nat → Int32) (J : Nat → Nat → Int64) (R : Nat → Nat → Option Nat) (hs : Sf K len I R) (a0 : Nat) (ka0 : K a0 = 9) : Ct g l yX8_clear cX8_clear 2 (Option.some Jvm.ClassFile.FieldType.int) rmX8_clear [.ref a0] (K, len, I, J, R) (pI1 (K, len, I, J, R) (fun r I' => Sf K len I' R ∧ Fr K [(1, 5), (1, 6), (9, 12), (43, 999), (50, 999), (51, 999), (52, 999), (53, 999), (54, 999), (67, 999)] I I' ∧ ((I' a0 12).toInt ≠ 4))) := by
  refine Ct_intro (by decide +kernel) (Nat.le_of_ble_eq_true rfl) (fun X hC hL hKK hNm hr hlk hQ => ?_)
  subst hL
  have hC : Cx g X cX8_clear "HillTap" 2 rmX8_clear := hC
  show P g X 2 0 [(0, .ref a0)] [] 0 0 (K, len, I, J, R)
  have hF : Fr K [(1, 5), (1, 6), (9, 12), (43, 999), (50, 999), (51, 999), (52, 999), (53, 999), (54, 999), (67, 999)] I I := Fr.refl
  refine r_aload_n hC dX8_clear_0 0 rfl ?_
  refine r_callV hC (As := []) (rest := []) (ci := 8) (c_X8_noHill g (xL X) K len I J R hs a0 ka0) mT_3_131 mT_1_1 mT_3_128 mT_3_130 mP_22 okX8_noHill ⟨by decide, by decide⟩ rfl (by show kO (K a0) = _; rw [ka0]; rfl) rfl rfl (Nat.le_of_ble_eq_true rfl) ⟨by decide, by decide⟩ dX8_clear_1 (aI0 (F := fun st M => P g X 2 4 [(0, .ref a0)] st _ _ M) (M := (K, len, I, J, R)) fun x1_ h1 => ?_)
  obtain ⟨k1_0, k1_1⟩ := h1
  show P g X 2 4 [(0, .ref a0)] [.int x1_] _ _ (K, len, I, J, R)
  refine r_if_eq hC (tgt := 13) dX8_clear_4 (by decide) (fun c2 => ?_) (fun c2 => ?_)
  · refine r_aload_n hC dX8_clear_13 0 rfl ?_
    refine r_callV hC (As := []) (rest := []) (ci := 8) (c_X8_findFits g (xL X) K len I J R hs a0 ka0) mT_3_226 mT_1_1 mT_3_223 mT_3_225 mP_33 okX8_findFits ⟨by decide, by decide⟩ rfl (by show kO (K a0) = _; rw [ka0]; rfl) rfl rfl (Nat.le_of_ble_eq_true rfl) ⟨by decide, by decide⟩ dX8_clear_14 (aV1 (F := fun st M => P g X 2 17 [(0, .ref a0)] st _ _ M) (M := (K, len, I, J, R)) fun I3 h3 => ?_)
    obtain ⟨hs3, hf3⟩ := h3
    show P g X 2 17 [(0, .ref a0)] [] _ _ (K, len, I3, J, R)
    have hF3 : Fr K [(1, 5), (1, 6), (9, 12), (43, 999), (50, 999), (51, 999), (52, 999), (53, 999), (54, 999), (67, 999)] I I3 := hF.trans hf3 rfl rfl
    refine r_iconst hC (v := (0)) dX8_clear_17 (by decide) (by decide) (fun x4_ e4 t4 => ?_)
    refine r_istore_n hC (lv' := [(1, .int x4_), (0, .ref a0)]) dX8_clear_18 (by decide) rfl ?_
    have LP5 : ∀ (mu : Nat) (x5_1 : Int32) (I5 : Nat → Nat → Int32) (hs5 : Sf K len I5 R) (hF5 : Fr K [(1, 5), (1, 6), (9, 12), (43, 999), (50, 999), (51, 999), (52, 999), (53, 999), (54, 999), (67, 999)] I I5) (v5_0 : 0 ≤ x5_1.toInt) (v5_1 : x5_1.toInt ≤ 60), (60 - x5_1.toInt).toNat = mu → P g X 2 19 [(0, .ref a0), (1, .int x5_1)] [] 0 0 (K, len, I5, J, R) := by
      intro mu; induction mu using Nat.strongRecOn with | ind mu ih => ?_
      intro x5_1 I5 hs5 hF5 v5_0 v5_1 hmu
      have ih5 := ih
      clear ih
      have hmu5 := hmu
      clear hmu
      refine r_iload_n hC dX8_clear_19 1 rfl ?_
      refine r_bipush hC (v := (60)) dX8_clear_20 (by decide) (by decide) (fun x6_ e6 t6 => ?_)
      refine r_icmp_ge hC (tgt := 46) dX8_clear_22 (by decide) (fun c7 => ?_) (fun c7 => ?_)
      · refine r_aload_n hC dX8_clear_46 0 rfl ?_
        refine r_bipush hC (v := (-2)) dX8_clear_47 (by decide) (by decide) (fun x8_ e8 t8 => ?_)
        refine r_callV hC (As := [.int x8_]) (rest := []) (ci := 8) (c_X8_answer g (xL X) K len I5 J R hs5 a0 ka0 x8_) mT_3_115 mT_1_1 mT_3_112 mT_3_114 mP_21 okX8_answer ⟨by decide, by decide⟩ rfl (by show kO (K a0) = _; rw [ka0]; rfl) rfl rfl (Nat.le_of_ble_eq_true rfl) ⟨by decide, by decide⟩ dX8_clear_49 (aI1 (F := fun st M => P g X 2 52 [(0, .ref a0), (1, .int x5_1)] st _ _ M) (M := (K, len, I5, J, R)) fun x9_ I9 h9 => ?_)
        obtain ⟨hs9, hf9, k9_0, k9_1⟩ := h9
        show P g X 2 52 [(0, .ref a0), (1, .int x5_1)] [.int x9_] _ _ (K, len, I9, J, R)
        have hF9 : Fr K [(1, 5), (1, 6), (9, 12), (43, 999), (50, 999), (51, 999), (52, 999), (53, 999), (54, 999), (67, 999)] I I9 := hF5.trans hf9 rfl rfl
        exact r_iret hC hQ hlk hr rfl (by decide) (by decide) dX8_clear_52 ⟨_, _, rfl, rfl, ⟨hs9, hF9, (by omega)⟩⟩
      · refine r_aload_n hC dX8_clear_25 0 rfl ?_
        refine r_iload_n hC dX8_clear_26 1 rfl ?_
        refine r_callV hC (As := [.int x5_1]) (rest := []) (ci := 8) (c_X8_countFitsUpTo g (xL X) K len I5 J R hs5 a0 ka0 x5_1) mT_3_239 mT_1_1 mT_3_236 mT_3_238 mP_34 okX8_countFitsUpTo ⟨by decide, by decide⟩ rfl (by show kO (K a0) = _; rw [ka0]; rfl) rfl rfl (Nat.le_of_ble_eq_true rfl) ⟨by decide, by decide⟩ dX8_clear_27 (aI0 (F := fun st M => P g X 2 30 [(0, .ref a0), (1, .int x5_1)] st _ _ M) (M := (K, len, I5, J, R)) fun x10_ h10 => ?_)
        skip
        show P g X 2 30 [(0, .ref a0), (1, .int x5_1)] [.int x10_] _ _ (K, len, I5, J, R)
        refine r_iconst hC (v := (1)) dX8_clear_30 (by decide) (by decide) (fun x11_ e11 t11 => ?_)
        refine r_icmp_ne hC (tgt := 40) dX8_clear_31 (by decide) (fun c12 => ?_) (fun c12 => ?_)
        · obtain ⟨x13_, e13⟩ : ∃ z : Int32, z = x5_1 + Int32.ofInt (1) := ⟨_, rfl⟩
          refine r_iinc hC (j := 1) (v := x13_) (lv' := [(1, .int x13_), (0, .ref a0)]) dX8_clear_40 rfl (by rw [e13]) (by decide) rfl ?_
          try have t13 : x13_.toInt = x5_1.toInt + (1) := by rw [e13]; exact (ti_add (b := Int32.ofInt (1)) (by show _ ≤ _ + (1 : Int); omega) (by show _ + (1 : Int) ≤ _; omega))
          refine r_goto hC (tgt := 19) dX8_clear_43 (by decide) ?_
          refine r_sub [1, 0] rfl ?_
          exact ih5 ((60 - x13_.toInt).toNat) (by omega) x13_ I5 hs5 hF5 (by omega) (by omega) rfl
        · refine r_aload_n hC dX8_clear_34 0 rfl ?_
          refine r_iload_n hC dX8_clear_35 1 rfl ?_
          refine r_callV hC (As := [.int x5_1]) (rest := []) (ci := 8) (c_X8_answer g (xL X) K len I5 J R hs5 a0 ka0 x5_1) mT_3_115 mT_1_1 mT_3_112 mT_3_114 mP_21 okX8_answer ⟨by decide, by decide⟩ rfl (by show kO (K a0) = _; rw [ka0]; rfl) rfl rfl (Nat.le_of_ble_eq_true rfl) ⟨by decide, by decide⟩ dX8_clear_36 (aI1 (F := fun st M => P g X 2 39 [(0, .ref a0), (1, .int x5_1)] st _ _ M) (M := (K, len, I5, J, R)) fun x14_ I14 h14 => ?_)
          obtain ⟨hs14, hf14, k14_0, k14_1⟩ := h14
          show P g X 2 39 [(0, .ref a0), (1, .int x5_1)] [.int x14_] _ _ (K, len, I14, J, R)
          have hF14 : Fr K [(1, 5), (1, 6), (9, 12), (43, 999), (50, 999), (51, 999), (52, 999), (53, 999), (54, 999), (67, 999)] I I14 := hF5.trans hf14 rfl rfl
          exact r_iret hC hQ hlk hr rfl (by decide) (by decide) dX8_clear_39 ⟨_, _, rfl, rfl, ⟨hs14, hF14, (by omega)⟩⟩
    refine r_sub [1, 0] rfl ?_
    exact LP5 _ x4_ I3 hs3 hF3 (by omega) (by omega) rfl
  · refine r_aload_n hC dX8_clear_7 0 rfl ?_
    refine r_iconst hC (v := (1)) dX8_clear_8 (by decide) (by decide) (fun x15_ e15 t15 => ?_)
    refine r_callV hC (As := [.int x15_]) (rest := []) (ci := 8) (c_X8_refuse g (xL X) K len I J R hs a0 ka0 x15_) mT_2_133 mT_1_1 mT_2_130 mT_2_132 mP_0 okX8_refuse ⟨by decide, by decide⟩ rfl (by show kO (K a0) = _; rw [ka0]; rfl) rfl rfl (Nat.le_of_ble_eq_true rfl) ⟨by decide, by decide⟩ dX8_clear_9 (aI1 (F := fun st M => P g X 2 12 [(0, .ref a0)] st _ _ M) (M := (K, len, I, J, R)) fun x16_ I16 h16 => ?_)
    obtain ⟨hs16, hf16, k16_0, k16_1⟩ := h16
    show P g X 2 12 [(0, .ref a0)] [.int x16_] _ _ (K, len, I16, J, R)
    have hF16 : Fr K [(1, 5), (1, 6), (9, 12), (43, 999), (50, 999), (51, 999), (52, 999), (53, 999), (54, 999), (67, 999)] I I16 := hF.trans hf16 rfl rfl
    exact r_iret hC hQ hlk hr rfl (by decide) (by decide) dX8_clear_12 ⟨_, _, rfl, rfl, ⟨hs16, hF16, (by omega)⟩⟩
set_option maxHeartbeats 4000000 in
set_option maxRecDepth 100000 in
theorem c_X8_lettings (g : GG) (l : Launch) (K len : Nat → Nat) (I : Nat → Nat → Int32) (J : Nat → Nat → Int64) (R : Nat → Nat → Option Nat) (hs : Sf K len I R) (a0 : Nat) (ka0 : K a0 = 9) : Ct g l yX8_lettings cX8_lettings 1 (Option.some Jvm.ClassFile.FieldType.int) rmX8_lettings [.ref a0] (K, len, I, J, R) (pI1 (K, len, I, J, R) (fun r I' => Sf K len I' R ∧ Fr K [(9, 12)] I I' ∧ ((I' a0 12).toInt ≠ 4))) := by
  refine Ct_intro (by decide +kernel) (Nat.le_of_ble_eq_true rfl) (fun X hC hL hKK hNm hr hlk hQ => ?_)
  subst hL
  have hC : Cx g X cX8_lettings "HillTap" 1 rmX8_lettings := hC
  show P g X 1 0 [(0, .ref a0)] [] 0 0 (K, len, I, J, R)
  have hF : Fr K [(9, 12)] I I := Fr.refl
  refine r_aload_n hC dX8_lettings_0 0 rfl ?_
  refine r_callV hC (As := []) (rest := []) (ci := 8) (c_X8_noHill g (xL X) K len I J R hs a0 ka0) mT_3_131 mT_1_1 mT_3_128 mT_3_130 mP_22 okX8_noHill ⟨by decide, by decide⟩ rfl (by show kO (K a0) = _; rw [ka0]; rfl) rfl rfl (Nat.le_of_ble_eq_true rfl) ⟨by decide, by decide⟩ dX8_lettings_1 (aI0 (F := fun st M => P g X 1 4 [(0, .ref a0)] st _ _ M) (M := (K, len, I, J, R)) fun x1_ h1 => ?_)
  obtain ⟨k1_0, k1_1⟩ := h1
  show P g X 1 4 [(0, .ref a0)] [.int x1_] _ _ (K, len, I, J, R)
  refine r_if_eq hC (tgt := 13) dX8_lettings_4 (by decide) (fun c2 => ?_) (fun c2 => ?_)
  · refine r_aload_n hC dX8_lettings_13 0 rfl ?_
    refine r_aload_n hC dX8_lettings_14 0 rfl ?_
    refine r_callV hC (As := []) (rest := [.ref a0]) (ci := 8) (c_X8_countLettings g (xL X) K len I J R hs a0 ka0) mT_4_27 mT_1_1 mT_4_24 mT_4_26 mP_37 okX8_countLettings ⟨by decide, by decide⟩ rfl (by show kO (K a0) = _; rw [ka0]; rfl) rfl rfl (Nat.le_of_ble_eq_true rfl) ⟨by decide, by decide⟩ dX8_lettings_15 (aI0 (F := fun st M => P g X 1 18 [(0, .ref a0)] st _ _ M) (M := (K, len, I, J, R)) fun x3_ h3 => ?_)
    skip
    show P g X 1 18 [(0, .ref a0)] [.int x3_, .ref a0] _ _ (K, len, I, J, R)
    refine r_callV hC (As := [.int x3_]) (rest := []) (ci := 8) (c_X8_answer g (xL X) K len I J R hs a0 ka0 x3_) mT_3_115 mT_1_1 mT_3_112 mT_3_114 mP_21 okX8_answer ⟨by decide, by decide⟩ rfl (by show kO (K a0) = _; rw [ka0]; rfl) rfl rfl (Nat.le_of_ble_eq_true rfl) ⟨by decide, by decide⟩ dX8_lettings_18 (aI1 (F := fun st M => P g X 1 21 [(0, .ref a0)] st _ _ M) (M := (K, len, I, J, R)) fun x4_ I4 h4 => ?_)
    obtain ⟨hs4, hf4, k4_0, k4_1⟩ := h4
    show P g X 1 21 [(0, .ref a0)] [.int x4_] _ _ (K, len, I4, J, R)
    have hF4 : Fr K [(9, 12)] I I4 := hF.trans hf4 rfl rfl
    exact r_iret hC hQ hlk hr rfl (by decide) (by decide) dX8_lettings_21 ⟨_, _, rfl, rfl, ⟨hs4, hF4, (by omega)⟩⟩
  · refine r_aload_n hC dX8_lettings_7 0 rfl ?_
    refine r_iconst hC (v := (1)) dX8_lettings_8 (by decide) (by decide) (fun x5_ e5 t5 => ?_)
    refine r_callV hC (As := [.int x5_]) (rest := []) (ci := 8) (c_X8_refuse g (xL X) K len I J R hs a0 ka0 x5_) mT_2_133 mT_1_1 mT_2_130 mT_2_132 mP_0 okX8_refuse ⟨by decide, by decide⟩ rfl (by show kO (K a0) = _; rw [ka0]; rfl) rfl rfl (Nat.le_of_ble_eq_true rfl) ⟨by decide, by decide⟩ dX8_lettings_9 (aI1 (F := fun st M => P g X 1 12 [(0, .ref a0)] st _ _ M) (M := (K, len, I, J, R)) fun x6_ I6 h6 => ?_)
    obtain ⟨hs6, hf6, k6_0, k6_1⟩ := h6
    show P g X 1 12 [(0, .ref a0)] [.int x6_] _ _ (K, len, I6, J, R)
    have hF6 : Fr K [(9, 12)] I I6 := hF.trans hf6 rfl rfl
    exact r_iret hC hQ hlk hr rfl (by decide) (by decide) dX8_lettings_12 ⟨_, _, rfl, rfl, ⟨hs6, hF6, (by omega)⟩⟩
set_option maxHeartbeats 4000000 in
set_option maxRecDepth 100000 in
theorem c_X8_tap (g : GG) (l : Launch) (K len : Nat → Nat) (I : Nat → Nat → Int32) (J : Nat → Nat → Int64) (R : Nat → Nat → Option Nat) (hs : Sf K len I R) (a0 : Nat) (ka0 : K a0 = 9) (x1 : Int32) : Ct g l yX8_tap cX8_tap 2 (Option.some Jvm.ClassFile.FieldType.int) rmX8_tap [.ref a0, .int x1] (K, len, I, J, R) (pI1 (K, len, I, J, R) (fun r I' => Sf K len I' R ∧ Fr K [(1, 5), (1, 6), (9, 12), (43, 999), (50, 999), (51, 999), (52, 999), (53, 999), (54, 999)] I I' ∧ ((I' a0 12).toInt ≠ 4))) := by
  refine Ct_intro (by decide +kernel) (Nat.le_of_ble_eq_true rfl) (fun X hC hL hKK hNm hr hlk hQ => ?_)
  subst hL
  have hC : Cx g X cX8_tap "HillTap" 2 rmX8_tap := hC
  show P g X 2 0 [(0, .ref a0), (1, .int x1)] [] 0 0 (K, len, I, J, R)
  have hF : Fr K [(1, 5), (1, 6), (9, 12), (43, 999), (50, 999), (51, 999), (52, 999), (53, 999), (54, 999)] I I := Fr.refl
  have b_x1 := ti_rng x1
  refine r_aload_n hC dX8_tap_0 0 rfl ?_
  refine r_iload_n hC dX8_tap_1 1 rfl ?_
  refine r_callV hC (As := [.int x1]) (rest := []) (ci := 8) (c_X8_isStory g (xL X) K len I J R hs a0 ka0 x1) mT_3_155 mT_1_1 mT_3_152 mT_3_154 mP_24 okX8_isStory ⟨by decide, by decide⟩ rfl (by show kO (K a0) = _; rw [ka0]; rfl) rfl rfl (Nat.le_of_ble_eq_true rfl) ⟨by decide, by decide⟩ dX8_tap_2 (aI0 (F := fun st M => P g X 2 5 [(0, .ref a0), (1, .int x1)] st _ _ M) (M := (K, len, I, J, R)) fun x1_ h1 => ?_)
  obtain ⟨k1_0, k1_1, k1_2⟩ := h1
  show P g X 2 5 [(0, .ref a0), (1, .int x1)] [.int x1_] _ _ (K, len, I, J, R)
  refine r_if_ne hC (tgt := 14) dX8_tap_5 (by decide) (fun c2 => ?_) (fun c2 => ?_)
  · refine r_aload_n hC dX8_tap_14 0 rfl ?_
    refine r_aload_n hC dX8_tap_15 0 rfl ?_
    refine r_iload_n hC dX8_tap_16 1 rfl ?_
    refine r_callV hC (As := [.int x1]) (rest := [.ref a0]) (ci := 8) (c_X8_tapOf g (xL X) K len I J R hs a0 ka0 x1 (by omega) (by omega)) mT_4_43 mT_1_1 mT_4_40 mT_4_42 mP_40 okX8_tapOf ⟨by decide, by decide⟩ rfl (by show kO (K a0) = _; rw [ka0]; rfl) rfl rfl (Nat.le_of_ble_eq_true rfl) ⟨by decide, by decide⟩ dX8_tap_17 (aI1 (F := fun st M => P g X 2 20 [(0, .ref a0), (1, .int x1)] st _ _ M) (M := (K, len, I, J, R)) fun x3_ I3 h3 => ?_)
    obtain ⟨hs3, hf3⟩ := h3
    show P g X 2 20 [(0, .ref a0), (1, .int x1)] [.int x3_, .ref a0] _ _ (K, len, I3, J, R)
    have hF3 : Fr K [(1, 5), (1, 6), (9, 12), (43, 999), (50, 999), (51, 999), (52, 999), (53, 999), (54, 999)] I I3 := hF.trans hf3 rfl rfl
    refine r_callV hC (As := [.int x3_]) (rest := []) (ci := 8) (c_X8_answer g (xL X) K len I3 J R hs3 a0 ka0 x3_) mT_3_115 mT_1_1 mT_3_112 mT_3_114 mP_21 okX8_answer ⟨by decide, by decide⟩ rfl (by show kO (K a0) = _; rw [ka0]; rfl) rfl rfl (Nat.le_of_ble_eq_true rfl) ⟨by decide, by decide⟩ dX8_tap_20 (aI1 (F := fun st M => P g X 2 23 [(0, .ref a0), (1, .int x1)] st _ _ M) (M := (K, len, I3, J, R)) fun x4_ I4 h4 => ?_)
    obtain ⟨hs4, hf4, k4_0, k4_1⟩ := h4
    show P g X 2 23 [(0, .ref a0), (1, .int x1)] [.int x4_] _ _ (K, len, I4, J, R)
    have hF4 : Fr K [(1, 5), (1, 6), (9, 12), (43, 999), (50, 999), (51, 999), (52, 999), (53, 999), (54, 999)] I I4 := hF3.trans hf4 rfl rfl
    exact r_iret hC hQ hlk hr rfl (by decide) (by decide) dX8_tap_23 ⟨_, _, rfl, rfl, ⟨hs4, hF4, (by omega)⟩⟩
  · refine r_aload_n hC dX8_tap_8 0 rfl ?_
    refine r_iconst hC (v := (1)) dX8_tap_9 (by decide) (by decide) (fun x5_ e5 t5 => ?_)
    refine r_callV hC (As := [.int x5_]) (rest := []) (ci := 8) (c_X8_refuse g (xL X) K len I J R hs a0 ka0 x5_) mT_2_133 mT_1_1 mT_2_130 mT_2_132 mP_0 okX8_refuse ⟨by decide, by decide⟩ rfl (by show kO (K a0) = _; rw [ka0]; rfl) rfl rfl (Nat.le_of_ble_eq_true rfl) ⟨by decide, by decide⟩ dX8_tap_10 (aI1 (F := fun st M => P g X 2 13 [(0, .ref a0), (1, .int x1)] st _ _ M) (M := (K, len, I, J, R)) fun x6_ I6 h6 => ?_)
    obtain ⟨hs6, hf6, k6_0, k6_1⟩ := h6
    show P g X 2 13 [(0, .ref a0), (1, .int x1)] [.int x6_] _ _ (K, len, I6, J, R)
    have hF6 : Fr K [(1, 5), (1, 6), (9, 12), (43, 999), (50, 999), (51, 999), (52, 999), (53, 999), (54, 999)] I I6 := hF.trans hf6 rfl rfl
    exact r_iret hC hQ hlk hr rfl (by decide) (by decide) dX8_tap_13 ⟨_, _, rfl, rfl, ⟨hs6, hF6, (by omega)⟩⟩
set_option maxHeartbeats 4000000 in
set_option maxRecDepth 100000 in
theorem c_X8_fooled (g : GG) (l : Launch) (K len : Nat → Nat) (I : Nat → Nat → Int32) (J : Nat → Nat → Int64) (R : Nat → Nat → Option Nat) (hs : Sf K len I R) (a0 : Nat) (ka0 : K a0 = 9) (x1 : Int32) : Ct g l yX8_fooled cX8_fooled 3 (Option.some Jvm.ClassFile.FieldType.int) rmX8_fooled [.ref a0, .int x1] (K, len, I, J, R) (pI1 (K, len, I, J, R) (fun r I' => Sf K len I' R ∧ Fr K [(1, 5), (1, 6), (9, 12), (43, 999), (50, 999), (51, 999), (52, 999), (53, 999), (54, 999)] I I' ∧ ((I' a0 12).toInt ≠ 4))) := by
  refine Ct_intro (by decide +kernel) (Nat.le_of_ble_eq_true rfl) (fun X hC hL hKK hNm hr hlk hQ => ?_)
  subst hL
  have hC : Cx g X cX8_fooled "HillTap" 3 rmX8_fooled := hC
  show P g X 3 0 [(0, .ref a0), (1, .int x1)] [] 0 0 (K, len, I, J, R)
  have hF : Fr K [(1, 5), (1, 6), (9, 12), (43, 999), (50, 999), (51, 999), (52, 999), (53, 999), (54, 999)] I I := Fr.refl
  have b_x1 := ti_rng x1
  refine r_aload_n hC dX8_fooled_0 0 rfl ?_
  refine r_callV hC (As := []) (rest := []) (ci := 8) (c_X8_noHill g (xL X) K len I J R hs a0 ka0) mT_3_131 mT_1_1 mT_3_128 mT_3_130 mP_22 okX8_noHill ⟨by decide, by decide⟩ rfl (by show kO (K a0) = _; rw [ka0]; rfl) rfl rfl (Nat.le_of_ble_eq_true rfl) ⟨by decide, by decide⟩ dX8_fooled_1 (aI0 (F := fun st M => P g X 3 4 [(0, .ref a0), (1, .int x1)] st _ _ M) (M := (K, len, I, J, R)) fun x1_ h1 => ?_)
  obtain ⟨k1_0, k1_1⟩ := h1
  show P g X 3 4 [(0, .ref a0), (1, .int x1)] [.int x1_] _ _ (K, len, I, J, R)
  refine r_if_eq hC (tgt := 13) dX8_fooled_4 (by decide) (fun c2 => ?_) (fun c2 => ?_)
  · refine r_iload_n hC dX8_fooled_13 1 rfl ?_
    refine r_if_ge hC (tgt := 23) dX8_fooled_14 (by decide) (fun c3 => ?_) (fun c3 => ?_)
    · refine r_aload_n hC dX8_fooled_23 0 rfl ?_
      refine r_callV hC (As := []) (rest := []) (ci := 8) (c_X8_countLettings g (xL X) K len I J R hs a0 ka0) mT_4_27 mT_1_1 mT_4_24 mT_4_26 mP_37 okX8_countLettings ⟨by decide, by decide⟩ rfl (by show kO (K a0) = _; rw [ka0]; rfl) rfl rfl (Nat.le_of_ble_eq_true rfl) ⟨by decide, by decide⟩ dX8_fooled_24 (aI0 (F := fun st M => P g X 3 27 [(0, .ref a0), (1, .int x1)] st _ _ M) (M := (K, len, I, J, R)) fun x4_ h4 => ?_)
      skip
      show P g X 3 27 [(0, .ref a0), (1, .int x1)] [.int x4_] _ _ (K, len, I, J, R)
      refine r_iload_n hC dX8_fooled_27 1 rfl ?_
      refine r_icmp_gt hC (tgt := 38) dX8_fooled_28 (by decide) (fun c5 => ?_) (fun c5 => ?_)
      · refine r_iconst hC (v := (0)) dX8_fooled_38 (by decide) (by decide) (fun x6_ e6 t6 => ?_)
        refine r_istore_n hC (lv' := [(2, .int x6_), (0, .ref a0), (1, .int x1)]) dX8_fooled_39 (by decide) rfl ?_
        have LP7 : ∀ (mu : Nat) (x7_2 : Int32) (I7 : Nat → Nat → Int32) (hs7 : Sf K len I7 R) (hF7 : Fr K [(1, 5), (1, 6), (9, 12), (43, 999), (50, 999), (51, 999), (52, 999), (53, 999), (54, 999)] I I7) (v7_0 : 0 ≤ x7_2.toInt) (v7_1 : x7_2.toInt ≤ 6), (6 - x7_2.toInt).toNat = mu → P g X 3 40 [(0, .ref a0), (1, .int x1), (2, .int x7_2)] [] 0 0 (K, len, I7, J, R) := by
          intro mu; induction mu using Nat.strongRecOn with | ind mu ih => ?_
          intro x7_2 I7 hs7 hF7 v7_0 v7_1 hmu
          have ih7 := ih
          clear ih
          have hmu7 := hmu
          clear hmu
          refine r_iload_n hC dX8_fooled_40 2 rfl ?_
          refine r_aload_n hC dX8_fooled_41 0 rfl ?_
          obtain ⟨a8_, hb8, hk8⟩ := hs7.obj ka0 2 2 (by decide)
          refine r_getr hC 2 (ci := 8) rfl u8_in (by decide) mT_2_80 dX8_fooled_42 ka0 rfl rfl hb8 ?_
          refine r_geti hC 6 (ci := 1) rfl u1_in (by decide) mT_1_202 dX8_fooled_45 hk8 rfl rfl (fun x9_ e9 => ?_)
          have r9 := hs7.rng hk8 rfl e9
          refine r_icmp_ge hC (tgt := 72) dX8_fooled_48 (by decide) (fun c10 => ?_) (fun c10 => ?_)
          · refine r_aload_n hC dX8_fooled_72 0 rfl ?_
            refine r_bipush hC (v := (-2)) dX8_fooled_73 (by decide) (by decide) (fun x11_ e11 t11 => ?_)
            refine r_callV hC (As := [.int x11_]) (rest := []) (ci := 8) (c_X8_answer g (xL X) K len I7 J R hs7 a0 ka0 x11_) mT_3_115 mT_1_1 mT_3_112 mT_3_114 mP_21 okX8_answer ⟨by decide, by decide⟩ rfl (by show kO (K a0) = _; rw [ka0]; rfl) rfl rfl (Nat.le_of_ble_eq_true rfl) ⟨by decide, by decide⟩ dX8_fooled_75 (aI1 (F := fun st M => P g X 3 78 [(0, .ref a0), (1, .int x1), (2, .int x7_2)] st _ _ M) (M := (K, len, I7, J, R)) fun x12_ I12 h12 => ?_)
            obtain ⟨hs12, hf12, k12_0, k12_1⟩ := h12
            show P g X 3 78 [(0, .ref a0), (1, .int x1), (2, .int x7_2)] [.int x12_] _ _ (K, len, I12, J, R)
            have hF12 : Fr K [(1, 5), (1, 6), (9, 12), (43, 999), (50, 999), (51, 999), (52, 999), (53, 999), (54, 999)] I I12 := hF7.trans hf12 rfl rfl
            exact r_iret hC hQ hlk hr rfl (by decide) (by decide) dX8_fooled_78 ⟨_, _, rfl, rfl, ⟨hs12, hF12, (by omega)⟩⟩
          · refine r_aload_n hC dX8_fooled_51 0 rfl ?_
            refine r_iload_n hC dX8_fooled_52 2 rfl ?_
            refine r_callV hC (As := [.int x7_2]) (rest := []) (ci := 8) (c_X8_tapOf g (xL X) K len I7 J R hs7 a0 ka0 x7_2 (by omega) (by omega)) mT_4_43 mT_1_1 mT_4_40 mT_4_42 mP_40 okX8_tapOf ⟨by decide, by decide⟩ rfl (by show kO (K a0) = _; rw [ka0]; rfl) rfl rfl (Nat.le_of_ble_eq_true rfl) ⟨by decide, by decide⟩ dX8_fooled_53 (aI1 (F := fun st M => P g X 3 56 [(0, .ref a0), (1, .int x1), (2, .int x7_2)] st _ _ M) (M := (K, len, I7, J, R)) fun x13_ I13 h13 => ?_)
            obtain ⟨hs13, hf13⟩ := h13
            show P g X 3 56 [(0, .ref a0), (1, .int x1), (2, .int x7_2)] [.int x13_] _ _ (K, len, I13, J, R)
            have hF13 : Fr K [(1, 5), (1, 6), (9, 12), (43, 999), (50, 999), (51, 999), (52, 999), (53, 999), (54, 999)] I I13 := hF7.trans hf13 rfl rfl
            refine r_iload_n hC dX8_fooled_56 1 rfl ?_
            refine r_icmp_ne hC (tgt := 66) dX8_fooled_57 (by decide) (fun c14 => ?_) (fun c14 => ?_)
            · obtain ⟨x15_, e15⟩ : ∃ z : Int32, z = x7_2 + Int32.ofInt (1) := ⟨_, rfl⟩
              refine r_iinc hC (j := 2) (v := x15_) (lv' := [(2, .int x15_), (0, .ref a0), (1, .int x1)]) dX8_fooled_66 rfl (by rw [e15]) (by decide) rfl ?_
              try have t15 : x15_.toInt = x7_2.toInt + (1) := by rw [e15]; exact (ti_add (b := Int32.ofInt (1)) (by show _ ≤ _ + (1 : Int); omega) (by show _ + (1 : Int) ≤ _; omega))
              refine r_goto hC (tgt := 40) dX8_fooled_69 (by decide) ?_
              refine r_sub [1, 2, 0] rfl ?_
              exact ih7 ((6 - x15_.toInt).toNat) (by omega) x15_ I13 hs13 hF13 (by omega) (by omega) rfl
            · refine r_aload_n hC dX8_fooled_60 0 rfl ?_
              refine r_iload_n hC dX8_fooled_61 2 rfl ?_
              refine r_callV hC (As := [.int x7_2]) (rest := []) (ci := 8) (c_X8_answer g (xL X) K len I13 J R hs13 a0 ka0 x7_2) mT_3_115 mT_1_1 mT_3_112 mT_3_114 mP_21 okX8_answer ⟨by decide, by decide⟩ rfl (by show kO (K a0) = _; rw [ka0]; rfl) rfl rfl (Nat.le_of_ble_eq_true rfl) ⟨by decide, by decide⟩ dX8_fooled_62 (aI1 (F := fun st M => P g X 3 65 [(0, .ref a0), (1, .int x1), (2, .int x7_2)] st _ _ M) (M := (K, len, I13, J, R)) fun x16_ I16 h16 => ?_)
              obtain ⟨hs16, hf16, k16_0, k16_1⟩ := h16
              show P g X 3 65 [(0, .ref a0), (1, .int x1), (2, .int x7_2)] [.int x16_] _ _ (K, len, I16, J, R)
              have hF16 : Fr K [(1, 5), (1, 6), (9, 12), (43, 999), (50, 999), (51, 999), (52, 999), (53, 999), (54, 999)] I I16 := hF13.trans hf16 rfl rfl
              exact r_iret hC hQ hlk hr rfl (by decide) (by decide) dX8_fooled_65 ⟨_, _, rfl, rfl, ⟨hs16, hF16, (by omega)⟩⟩
        refine r_sub [1, 2, 0] rfl ?_
        exact LP7 _ x6_ I hs hF (by omega) (by omega) rfl
      · refine r_aload_n hC dX8_fooled_31 0 rfl ?_
        refine r_bipush hC (v := (-2)) dX8_fooled_32 (by decide) (by decide) (fun x17_ e17 t17 => ?_)
        refine r_callV hC (As := [.int x17_]) (rest := []) (ci := 8) (c_X8_answer g (xL X) K len I J R hs a0 ka0 x17_) mT_3_115 mT_1_1 mT_3_112 mT_3_114 mP_21 okX8_answer ⟨by decide, by decide⟩ rfl (by show kO (K a0) = _; rw [ka0]; rfl) rfl rfl (Nat.le_of_ble_eq_true rfl) ⟨by decide, by decide⟩ dX8_fooled_34 (aI1 (F := fun st M => P g X 3 37 [(0, .ref a0), (1, .int x1)] st _ _ M) (M := (K, len, I, J, R)) fun x18_ I18 h18 => ?_)
        obtain ⟨hs18, hf18, k18_0, k18_1⟩ := h18
        show P g X 3 37 [(0, .ref a0), (1, .int x1)] [.int x18_] _ _ (K, len, I18, J, R)
        have hF18 : Fr K [(1, 5), (1, 6), (9, 12), (43, 999), (50, 999), (51, 999), (52, 999), (53, 999), (54, 999)] I I18 := hF.trans hf18 rfl rfl
        exact r_iret hC hQ hlk hr rfl (by decide) (by decide) dX8_fooled_37 ⟨_, _, rfl, rfl, ⟨hs18, hF18, (by omega)⟩⟩
    · refine r_aload_n hC dX8_fooled_17 0 rfl ?_
      refine r_iconst hC (v := (2)) dX8_fooled_18 (by decide) (by decide) (fun x19_ e19 t19 => ?_)
      refine r_callV hC (As := [.int x19_]) (rest := []) (ci := 8) (c_X8_refuse g (xL X) K len I J R hs a0 ka0 x19_) mT_2_133 mT_1_1 mT_2_130 mT_2_132 mP_0 okX8_refuse ⟨by decide, by decide⟩ rfl (by show kO (K a0) = _; rw [ka0]; rfl) rfl rfl (Nat.le_of_ble_eq_true rfl) ⟨by decide, by decide⟩ dX8_fooled_19 (aI1 (F := fun st M => P g X 3 22 [(0, .ref a0), (1, .int x1)] st _ _ M) (M := (K, len, I, J, R)) fun x20_ I20 h20 => ?_)
      obtain ⟨hs20, hf20, k20_0, k20_1⟩ := h20
      show P g X 3 22 [(0, .ref a0), (1, .int x1)] [.int x20_] _ _ (K, len, I20, J, R)
      have hF20 : Fr K [(1, 5), (1, 6), (9, 12), (43, 999), (50, 999), (51, 999), (52, 999), (53, 999), (54, 999)] I I20 := hF.trans hf20 rfl rfl
      exact r_iret hC hQ hlk hr rfl (by decide) (by decide) dX8_fooled_22 ⟨_, _, rfl, rfl, ⟨hs20, hF20, (by omega)⟩⟩
  · refine r_aload_n hC dX8_fooled_7 0 rfl ?_
    refine r_iconst hC (v := (1)) dX8_fooled_8 (by decide) (by decide) (fun x21_ e21 t21 => ?_)
    refine r_callV hC (As := [.int x21_]) (rest := []) (ci := 8) (c_X8_refuse g (xL X) K len I J R hs a0 ka0 x21_) mT_2_133 mT_1_1 mT_2_130 mT_2_132 mP_0 okX8_refuse ⟨by decide, by decide⟩ rfl (by show kO (K a0) = _; rw [ka0]; rfl) rfl rfl (Nat.le_of_ble_eq_true rfl) ⟨by decide, by decide⟩ dX8_fooled_9 (aI1 (F := fun st M => P g X 3 12 [(0, .ref a0), (1, .int x1)] st _ _ M) (M := (K, len, I, J, R)) fun x22_ I22 h22 => ?_)
    obtain ⟨hs22, hf22, k22_0, k22_1⟩ := h22
    show P g X 3 12 [(0, .ref a0), (1, .int x1)] [.int x22_] _ _ (K, len, I22, J, R)
    have hF22 : Fr K [(1, 5), (1, 6), (9, 12), (43, 999), (50, 999), (51, 999), (52, 999), (53, 999), (54, 999)] I I22 := hF.trans hf22 rfl rfl
    exact r_iret hC hQ hlk hr rfl (by decide) (by decide) dX8_fooled_12 ⟨_, _, rfl, rfl, ⟨hs22, hF22, (by omega)⟩⟩
set_option maxHeartbeats 4000000 in
set_option maxRecDepth 100000 in
theorem c_X8_nought (g : GG) (l : Launch) (K len : Nat → Nat) (I : Nat → Nat → Int32) (J : Nat → Nat → Int64) (R : Nat → Nat → Option Nat) (hs : Sf K len I R) (a0 : Nat) (ka0 : K a0 = 9) (x1 : Int32) (x2 : Int32) (x3 : Int32) : Ct g l yX8_nought cX8_nought 7 (Option.some Jvm.ClassFile.FieldType.int) rmX8_nought [.ref a0, .int x1, .int x2, .int x3] (K, len, I, J, R) (pI1 (K, len, I, J, R) (fun r I' => Sf K len I' R ∧ Fr K [(1, 5), (1, 6), (9, 12), (43, 999), (50, 999), (51, 999), (52, 999), (53, 999), (54, 999)] I I' ∧ ((I' a0 12).toInt ≠ 4))) := by
  refine Ct_intro (by decide +kernel) (Nat.le_of_ble_eq_true rfl) (fun X hC hL hKK hNm hr hlk hQ => ?_)
  subst hL
  have hC : Cx g X cX8_nought "HillTap" 7 rmX8_nought := hC
  show P g X 7 0 [(0, .ref a0), (1, .int x1), (2, .int x2), (3, .int x3)] [] 0 0 (K, len, I, J, R)
  have hF : Fr K [(1, 5), (1, 6), (9, 12), (43, 999), (50, 999), (51, 999), (52, 999), (53, 999), (54, 999)] I I := Fr.refl
  have b_x1 := ti_rng x1
  have b_x2 := ti_rng x2
  have b_x3 := ti_rng x3
  refine r_aload_n hC dX8_nought_0 0 rfl ?_
  refine r_iload_n hC dX8_nought_1 1 rfl ?_
  refine r_iload_n hC dX8_nought_2 2 rfl ?_
  refine r_iload_n hC dX8_nought_3 3 rfl ?_
  refine r_callV hC (As := [.int x1, .int x2, .int x3]) (rest := []) (ci := 8) (c_X8_isPegDay g (xL X) K len I J R hs a0 ka0 x1 x2 x3) mT_3_151 mT_1_1 mT_3_148 mT_3_150 mP_23 okX8_isPegDay ⟨by decide, by decide⟩ rfl (by show kO (K a0) = _; rw [ka0]; rfl) rfl rfl (Nat.le_of_ble_eq_true rfl) ⟨by decide, by decide⟩ dX8_nought_4 (aI0 (F := fun st M => P g X 7 7 [(0, .ref a0), (1, .int x1), (2, .int x2), (3, .int x3)] st _ _ M) (M := (K, len, I, J, R)) fun x1_ h1 => ?_)
  obtain ⟨k1_0, k1_1, k1_2⟩ := h1
  show P g X 7 7 [(0, .ref a0), (1, .int x1), (2, .int x2), (3, .int x3)] [.int x1_] _ _ (K, len, I, J, R)
  refine r_if_eq hC (tgt := 16) dX8_nought_7 (by decide) (fun c2 => ?_) (fun c2 => ?_)
  · refine r_aload_n hC dX8_nought_16 0 rfl ?_
    refine r_iconst hC (v := (1)) dX8_nought_17 (by decide) (by decide) (fun x3_ e3 t3 => ?_)
    refine r_callV hC (As := [.int x3_]) (rest := []) (ci := 8) (c_X8_refuse g (xL X) K len I J R hs a0 ka0 x3_) mT_2_133 mT_1_1 mT_2_130 mT_2_132 mP_0 okX8_refuse ⟨by decide, by decide⟩ rfl (by show kO (K a0) = _; rw [ka0]; rfl) rfl rfl (Nat.le_of_ble_eq_true rfl) ⟨by decide, by decide⟩ dX8_nought_18 (aI1 (F := fun st M => P g X 7 21 [(0, .ref a0), (1, .int x1), (2, .int x2), (3, .int x3)] st _ _ M) (M := (K, len, I, J, R)) fun x4_ I4 h4 => ?_)
    obtain ⟨hs4, hf4, k4_0, k4_1⟩ := h4
    show P g X 7 21 [(0, .ref a0), (1, .int x1), (2, .int x2), (3, .int x3)] [.int x4_] _ _ (K, len, I4, J, R)
    have hF4 : Fr K [(1, 5), (1, 6), (9, 12), (43, 999), (50, 999), (51, 999), (52, 999), (53, 999), (54, 999)] I I4 := hF.trans hf4 rfl rfl
    exact r_iret hC hQ hlk hr rfl (by decide) (by decide) dX8_nought_21 ⟨_, _, rfl, rfl, ⟨hs4, hF4, (by omega)⟩⟩
  · refine r_iload_n hC dX8_nought_10 3 rfl ?_
    refine r_bipush hC (v := (59)) dX8_nought_11 (by decide) (by decide) (fun x5_ e5 t5 => ?_)
    refine r_icmp_lt hC (tgt := 22) dX8_nought_13 (by decide) (fun c6 => ?_) (fun c6 => ?_)
    · refine r_aload_n hC dX8_nought_22 0 rfl ?_
      refine r_iload_n hC dX8_nought_23 1 rfl ?_
      refine r_callV hC (As := [.int x1]) (rest := []) (ci := 8) (c_X8_courseOf g (xL X) K len I J R hs a0 ka0 x1 (by omega) (by omega)) mT_3_163 mT_1_1 mT_3_160 mT_3_162 mP_26 okX8_courseOf ⟨by decide, by decide⟩ rfl (by show kO (K a0) = _; rw [ka0]; rfl) rfl rfl (Nat.le_of_ble_eq_true rfl) ⟨by decide, by decide⟩ dX8_nought_24 (aR1 (F := fun st M => P g X 7 27 [(0, .ref a0), (1, .int x1), (2, .int x2), (3, .int x3)] st _ _ M) (M := (K, len, I, J, R)) fun a7_ I7 h7 => ?_)
      obtain ⟨hs7, hf7, k7_0⟩ := h7
      show P g X 7 27 [(0, .ref a0), (1, .int x1), (2, .int x2), (3, .int x3)] [.ref a7_] _ _ (K, len, I7, J, R)
      have hF7 : Fr K [(1, 5), (1, 6), (9, 12), (43, 999), (50, 999), (51, 999), (52, 999), (53, 999), (54, 999)] I I7 := hF.trans hf7 rfl rfl
      refine r_astore hC (lv' := [(4, .ref a7_), (0, .ref a0), (1, .int x1), (2, .int x2), (3, .int x3)]) dX8_nought_27 (by decide) rfl ?_
      refine r_aload hC dX8_nought_29 0 rfl ?_
      obtain ⟨a8_, hb8, hk8, hn8⟩ := hs7.row k7_0 0 50 300 (by decide) (by decide)
      refine r_getr hC 0 (ci := 0) rfl u0_in (by decide) mT_2_26 dX8_nought_31 k7_0 rfl rfl hb8 ?_
      refine r_iload_n hC dX8_nought_34 3 rfl ?_
      refine r_iload_n hC dX8_nought_35 4 rfl ?_
      refine r_callS hC (As := [.int x2, .int x3]) (rest := [.ref a8_]) (c_X8_row g (xL X) K len I7 J R hs7 x2 x3 (by omega) (by omega) (by omega) (by omega)) mT_3_192 mT_1_1 mT_3_197 mT_3_191 okX8_row ⟨by decide, by decide⟩ rfl rfl (Nat.le_of_ble_eq_true rfl) ⟨by decide, by decide⟩ dX8_nought_36 (aI0 (F := fun st M => P g X 7 39 [(4, .ref a7_), (0, .ref a0), (1, .int x1), (2, .int x2), (3, .int x3)] st _ _ M) (M := (K, len, I7, J, R)) fun x9_ h9 => ?_)
      have k9_0 := h9
      show P g X 7 39 [(4, .ref a7_), (0, .ref a0), (1, .int x1), (2, .int x2), (3, .int x3)] [.int x9_, .ref a8_] _ _ (K, len, I7, J, R)
      refine x_iaload hC hk8 hn8 (by decide) rfl rfl dX8_nought_39 (by omega) (by omega) (fun x10_ e10 => ?_)
      refine r_istore hC (lv' := [(5, .int x10_), (4, .ref a7_), (0, .ref a0), (1, .int x1), (2, .int x2), (3, .int x3)]) dX8_nought_40 (by decide) rfl ?_
      refine r_aload hC dX8_nought_42 1 rfl ?_
      refine r_getr hC 0 (ci := 0) rfl u0_in (by decide) mT_2_26 dX8_nought_44 k7_0 rfl rfl hb8 ?_
      refine r_iload_n hC dX8_nought_47 4 rfl ?_
      refine r_iload_n hC dX8_nought_48 5 rfl ?_
      refine r_iconst hC (v := (1)) dX8_nought_49 (by decide) (by decide) (fun x11_ e11 t11 => ?_)
      refine r_iadd hC dX8_nought_50 (fun x12_ e12 => ?_)
      try have t12 : x12_.toInt = x3.toInt + x11_.toInt := by rw [e12]; exact ti_add (by omega) (by omega)
      refine r_callS hC (As := [.int x2, .int x12_]) (rest := [.ref a8_]) (c_X8_row g (xL X) K len I7 J R hs7 x2 x12_ (by omega) (by omega) (by omega) (by omega)) mT_3_192 mT_1_1 mT_3_197 mT_3_191 okX8_row ⟨by decide, by decide⟩ rfl rfl (Nat.le_of_ble_eq_true rfl) ⟨by decide, by decide⟩ dX8_nought_51 (aI0 (F := fun st M => P g X 7 54 [(5, .int x10_), (4, .ref a7_), (0, .ref a0), (1, .int x1), (2, .int x2), (3, .int x3)] st _ _ M) (M := (K, len, I7, J, R)) fun x13_ h13 => ?_)
      have k13_0 := h13
      show P g X 7 54 [(5, .int x10_), (4, .ref a7_), (0, .ref a0), (1, .int x1), (2, .int x2), (3, .int x3)] [.int x13_, .ref a8_] _ _ (K, len, I7, J, R)
      refine x_iaload hC hk8 hn8 (by decide) rfl rfl dX8_nought_54 (by omega) (by omega) (fun x14_ e14 => ?_)
      refine r_istore hC (lv' := [(6, .int x14_), (5, .int x10_), (4, .ref a7_), (0, .ref a0), (1, .int x1), (2, .int x2), (3, .int x3)]) dX8_nought_55 (by decide) rfl ?_
      refine r_aload_n hC dX8_nought_57 3 rfl ?_
      refine r_iload_n hC dX8_nought_58 6 rfl ?_
      refine r_iload hC dX8_nought_59 1 rfl ?_
      refine r_iload hC dX8_nought_61 0 rfl ?_
      refine r_callS hC (As := [.int x3, .int x10_, .int x14_]) (rest := [.ref a0]) (c_X8_noughtBy g (xL X) K len I7 J R hs7 x3 x10_ x14_) mT_4_62 mT_1_1 mT_4_60 mT_4_61 okX8_noughtBy ⟨by decide, by decide⟩ rfl rfl (Nat.le_of_ble_eq_true rfl) ⟨by decide, by decide⟩ dX8_nought_63 (aI0 (F := fun st M => P g X 7 66 [(6, .int x14_), (5, .int x10_), (4, .ref a7_), (0, .ref a0), (1, .int x1), (2, .int x2), (3, .int x3)] st _ _ M) (M := (K, len, I7, J, R)) fun x15_ h15 => ?_)
      skip
      show P g X 7 66 [(6, .int x14_), (5, .int x10_), (4, .ref a7_), (0, .ref a0), (1, .int x1), (2, .int x2), (3, .int x3)] [.int x15_, .ref a0] _ _ (K, len, I7, J, R)
      refine r_callV hC (As := [.int x15_]) (rest := []) (ci := 8) (c_X8_answer g (xL X) K len I7 J R hs7 a0 ka0 x15_) mT_3_115 mT_1_1 mT_3_112 mT_3_114 mP_21 okX8_answer ⟨by decide, by decide⟩ rfl (by show kO (K a0) = _; rw [ka0]; rfl) rfl rfl (Nat.le_of_ble_eq_true rfl) ⟨by decide, by decide⟩ dX8_nought_66 (aI1 (F := fun st M => P g X 7 69 [(6, .int x14_), (5, .int x10_), (4, .ref a7_), (0, .ref a0), (1, .int x1), (2, .int x2), (3, .int x3)] st _ _ M) (M := (K, len, I7, J, R)) fun x16_ I16 h16 => ?_)
      obtain ⟨hs16, hf16, k16_0, k16_1⟩ := h16
      show P g X 7 69 [(6, .int x14_), (5, .int x10_), (4, .ref a7_), (0, .ref a0), (1, .int x1), (2, .int x2), (3, .int x3)] [.int x16_] _ _ (K, len, I16, J, R)
      have hF16 : Fr K [(1, 5), (1, 6), (9, 12), (43, 999), (50, 999), (51, 999), (52, 999), (53, 999), (54, 999)] I I16 := hF7.trans hf16 rfl rfl
      exact r_iret hC hQ hlk hr rfl (by decide) (by decide) dX8_nought_69 ⟨_, _, rfl, rfl, ⟨hs16, hF16, (by omega)⟩⟩
    · refine r_aload_n hC dX8_nought_16 0 rfl ?_
      refine r_iconst hC (v := (1)) dX8_nought_17 (by decide) (by decide) (fun x17_ e17 t17 => ?_)
      refine r_callV hC (As := [.int x17_]) (rest := []) (ci := 8) (c_X8_refuse g (xL X) K len I J R hs a0 ka0 x17_) mT_2_133 mT_1_1 mT_2_130 mT_2_132 mP_0 okX8_refuse ⟨by decide, by decide⟩ rfl (by show kO (K a0) = _; rw [ka0]; rfl) rfl rfl (Nat.le_of_ble_eq_true rfl) ⟨by decide, by decide⟩ dX8_nought_18 (aI1 (F := fun st M => P g X 7 21 [(0, .ref a0), (1, .int x1), (2, .int x2), (3, .int x3)] st _ _ M) (M := (K, len, I, J, R)) fun x18_ I18 h18 => ?_)
      obtain ⟨hs18, hf18, k18_0, k18_1⟩ := h18
      show P g X 7 21 [(0, .ref a0), (1, .int x1), (2, .int x2), (3, .int x3)] [.int x18_] _ _ (K, len, I18, J, R)
      have hF18 : Fr K [(1, 5), (1, 6), (9, 12), (43, 999), (50, 999), (51, 999), (52, 999), (53, 999), (54, 999)] I I18 := hF.trans hf18 rfl rfl
      exact r_iret hC hQ hlk hr rfl (by decide) (by decide) dX8_nought_21 ⟨_, _, rfl, rfl, ⟨hs18, hF18, (by omega)⟩⟩
set_option maxHeartbeats 4000000 in
set_option maxRecDepth 100000 in
theorem c_X8_span (g : GG) (l : Launch) (K len : Nat → Nat) (I : Nat → Nat → Int32) (J : Nat → Nat → Int64) (R : Nat → Nat → Option Nat) (hs : Sf K len I R) (a0 : Nat) (ka0 : K a0 = 9) (x1 : Int32) (x2 : Int32) (x3 : Int32) (x4 : Int32) (x5 : Int32) : Ct g l yX8_span cX8_span 13 (Option.some Jvm.ClassFile.FieldType.int) rmX8_span [.ref a0, .int x1, .int x2, .int x3, .int x4, .int x5] (K, len, I, J, R) (pI1 (K, len, I, J, R) (fun r I' => Sf K len I' R ∧ Fr K [(1, 5), (1, 6), (9, 12), (43, 999), (50, 999), (51, 999), (52, 999), (53, 999), (54, 999)] I I' ∧ ((I' a0 12).toInt ≠ 4))) := by
  refine Ct_intro (by decide +kernel) (Nat.le_of_ble_eq_true rfl) (fun X hC hL hKK hNm hr hlk hQ => ?_)
  subst hL
  have hC : Cx g X cX8_span "HillTap" 13 rmX8_span := hC
  show P g X 13 0 [(0, .ref a0), (1, .int x1), (2, .int x2), (3, .int x3), (4, .int x4), (5, .int x5)] [] 0 0 (K, len, I, J, R)
  have hF : Fr K [(1, 5), (1, 6), (9, 12), (43, 999), (50, 999), (51, 999), (52, 999), (53, 999), (54, 999)] I I := Fr.refl
  have b_x1 := ti_rng x1
  have b_x2 := ti_rng x2
  have b_x3 := ti_rng x3
  have b_x4 := ti_rng x4
  have b_x5 := ti_rng x5
  refine r_aload_n hC dX8_span_0 0 rfl ?_
  refine r_iload_n hC dX8_span_1 1 rfl ?_
  refine r_iload_n hC dX8_span_2 2 rfl ?_
  refine r_iload_n hC dX8_span_3 3 rfl ?_
  refine r_callV hC (As := [.int x1, .int x2, .int x3]) (rest := []) (ci := 8) (c_X8_isPegDay g (xL X) K len I J R hs a0 ka0 x1 x2 x3) mT_3_151 mT_1_1 mT_3_148 mT_3_150 mP_23 okX8_isPegDay ⟨by decide, by decide⟩ rfl (by show kO (K a0) = _; rw [ka0]; rfl) rfl rfl (Nat.le_of_ble_eq_true rfl) ⟨by decide, by decide⟩ dX8_span_4 (aI0 (F := fun st M => P g X 13 7 [(0, .ref a0), (1, .int x1), (2, .int x2), (3, .int x3), (4, .int x4), (5, .int x5)] st _ _ M) (M := (K, len, I, J, R)) fun x1_ h1 => ?_)
  obtain ⟨k1_0, k1_1, k1_2⟩ := h1
  show P g X 13 7 [(0, .ref a0), (1, .int x1), (2, .int x2), (3, .int x3), (4, .int x4), (5, .int x5)] [.int x1_] _ _ (K, len, I, J, R)
  refine r_if_eq hC (tgt := 16) dX8_span_7 (by decide) (fun c2 => ?_) (fun c2 => ?_)
  · refine r_aload_n hC dX8_span_16 0 rfl ?_
    refine r_iconst hC (v := (1)) dX8_span_17 (by decide) (by decide) (fun x3_ e3 t3 => ?_)
    refine r_callV hC (As := [.int x3_]) (rest := []) (ci := 8) (c_X8_refuse g (xL X) K len I J R hs a0 ka0 x3_) mT_2_133 mT_1_1 mT_2_130 mT_2_132 mP_0 okX8_refuse ⟨by decide, by decide⟩ rfl (by show kO (K a0) = _; rw [ka0]; rfl) rfl rfl (Nat.le_of_ble_eq_true rfl) ⟨by decide, by decide⟩ dX8_span_18 (aI1 (F := fun st M => P g X 13 21 [(0, .ref a0), (1, .int x1), (2, .int x2), (3, .int x3), (4, .int x4), (5, .int x5)] st _ _ M) (M := (K, len, I, J, R)) fun x4_ I4 h4 => ?_)
    obtain ⟨hs4, hf4, k4_0, k4_1⟩ := h4
    show P g X 13 21 [(0, .ref a0), (1, .int x1), (2, .int x2), (3, .int x3), (4, .int x4), (5, .int x5)] [.int x4_] _ _ (K, len, I4, J, R)
    have hF4 : Fr K [(1, 5), (1, 6), (9, 12), (43, 999), (50, 999), (51, 999), (52, 999), (53, 999), (54, 999)] I I4 := hF.trans hf4 rfl rfl
    exact r_iret hC hQ hlk hr rfl (by decide) (by decide) dX8_span_21 ⟨_, _, rfl, rfl, ⟨hs4, hF4, (by omega)⟩⟩
  · refine r_iload_n hC dX8_span_10 3 rfl ?_
    refine r_bipush hC (v := (59)) dX8_span_11 (by decide) (by decide) (fun x5_ e5 t5 => ?_)
    refine r_icmp_lt hC (tgt := 22) dX8_span_13 (by decide) (fun c6 => ?_) (fun c6 => ?_)
    · refine r_iload hC dX8_span_22 4 rfl ?_
      refine r_if_lt hC (tgt := 34) dX8_span_24 (by decide) (fun c7 => ?_) (fun c7 => ?_)
      · refine r_aload_n hC dX8_span_34 0 rfl ?_
        refine r_iconst hC (v := (2)) dX8_span_35 (by decide) (by decide) (fun x8_ e8 t8 => ?_)
        refine r_callV hC (As := [.int x8_]) (rest := []) (ci := 8) (c_X8_refuse g (xL X) K len I J R hs a0 ka0 x8_) mT_2_133 mT_1_1 mT_2_130 mT_2_132 mP_0 okX8_refuse ⟨by decide, by decide⟩ rfl (by show kO (K a0) = _; rw [ka0]; rfl) rfl rfl (Nat.le_of_ble_eq_true rfl) ⟨by decide, by decide⟩ dX8_span_36 (aI1 (F := fun st M => P g X 13 39 [(0, .ref a0), (1, .int x1), (2, .int x2), (3, .int x3), (4, .int x4), (5, .int x5)] st _ _ M) (M := (K, len, I, J, R)) fun x9_ I9 h9 => ?_)
        obtain ⟨hs9, hf9, k9_0, k9_1⟩ := h9
        show P g X 13 39 [(0, .ref a0), (1, .int x1), (2, .int x2), (3, .int x3), (4, .int x4), (5, .int x5)] [.int x9_] _ _ (K, len, I9, J, R)
        have hF9 : Fr K [(1, 5), (1, 6), (9, 12), (43, 999), (50, 999), (51, 999), (52, 999), (53, 999), (54, 999)] I I9 := hF.trans hf9 rfl rfl
        exact r_iret hC hQ hlk hr rfl (by decide) (by decide) dX8_span_39 ⟨_, _, rfl, rfl, ⟨hs9, hF9, (by omega)⟩⟩
      · refine r_iload hC dX8_span_27 4 rfl ?_
        refine r_bipush hC (v := (20)) dX8_span_29 (by decide) (by decide) (fun x10_ e10 t10 => ?_)
        refine r_icmp_le hC (tgt := 40) dX8_span_31 (by decide) (fun c11 => ?_) (fun c11 => ?_)
        · refine r_aload_n hC dX8_span_40 0 rfl ?_
          refine r_iload_n hC dX8_span_41 1 rfl ?_
          refine r_callV hC (As := [.int x1]) (rest := []) (ci := 8) (c_X8_courseOf g (xL X) K len I J R hs a0 ka0 x1 (by omega) (by omega)) mT_3_163 mT_1_1 mT_3_160 mT_3_162 mP_26 okX8_courseOf ⟨by decide, by decide⟩ rfl (by show kO (K a0) = _; rw [ka0]; rfl) rfl rfl (Nat.le_of_ble_eq_true rfl) ⟨by decide, by decide⟩ dX8_span_42 (aR1 (F := fun st M => P g X 13 45 [(0, .ref a0), (1, .int x1), (2, .int x2), (3, .int x3), (4, .int x4), (5, .int x5)] st _ _ M) (M := (K, len, I, J, R)) fun a12_ I12 h12 => ?_)
          obtain ⟨hs12, hf12, k12_0⟩ := h12
          show P g X 13 45 [(0, .ref a0), (1, .int x1), (2, .int x2), (3, .int x3), (4, .int x4), (5, .int x5)] [.ref a12_] _ _ (K, len, I12, J, R)
          have hF12 : Fr K [(1, 5), (1, 6), (9, 12), (43, 999), (50, 999), (51, 999), (52, 999), (53, 999), (54, 999)] I I12 := hF.trans hf12 rfl rfl
          refine r_astore hC (lv' := [(6, .ref a12_), (0, .ref a0), (1, .int x1), (2, .int x2), (3, .int x3), (4, .int x4), (5, .int x5)]) dX8_span_45 (by decide) rfl ?_
          refine r_aload hC dX8_span_47 0 rfl ?_
          obtain ⟨a13_, hb13, hk13, hn13⟩ := hs12.row k12_0 0 50 300 (by decide) (by decide)
          refine r_getr hC 0 (ci := 0) rfl u0_in (by decide) mT_2_26 dX8_span_49 k12_0 rfl rfl hb13 ?_
          refine r_iload_n hC dX8_span_52 3 rfl ?_
          refine r_iload_n hC dX8_span_53 4 rfl ?_
          refine r_callS hC (As := [.int x2, .int x3]) (rest := [.ref a13_]) (c_X8_row g (xL X) K len I12 J R hs12 x2 x3 (by omega) (by omega) (by omega) (by omega)) mT_3_192 mT_1_1 mT_3_197 mT_3_191 okX8_row ⟨by decide, by decide⟩ rfl rfl (Nat.le_of_ble_eq_true rfl) ⟨by decide, by decide⟩ dX8_span_54 (aI0 (F := fun st M => P g X 13 57 [(6, .ref a12_), (0, .ref a0), (1, .int x1), (2, .int x2), (3, .int x3), (4, .int x4), (5, .int x5)] st _ _ M) (M := (K, len, I12, J, R)) fun x14_ h14 => ?_)
          have k14_0 := h14
          show P g X 13 57 [(6, .ref a12_), (0, .ref a0), (1, .int x1), (2, .int x2), (3, .int x3), (4, .int x4), (5, .int x5)] [.int x14_, .ref a13_] _ _ (K, len, I12, J, R)
          refine x_iaload hC hk13 hn13 (by decide) rfl rfl dX8_span_57 (by omega) (by omega) (fun x15_ e15 => ?_)
          refine r_istore hC (lv' := [(7, .int x15_), (6, .ref a12_), (0, .ref a0), (1, .int x1), (2, .int x2), (3, .int x3), (4, .int x4), (5, .int x5)]) dX8_span_58 (by decide) rfl ?_
          refine r_aload hC dX8_span_60 1 rfl ?_
          refine r_getr hC 0 (ci := 0) rfl u0_in (by decide) mT_2_26 dX8_span_62 k12_0 rfl rfl hb13 ?_
          refine r_iload_n hC dX8_span_65 4 rfl ?_
          refine r_iload_n hC dX8_span_66 5 rfl ?_
          refine r_iconst hC (v := (1)) dX8_span_67 (by decide) (by decide) (fun x16_ e16 t16 => ?_)
          refine r_iadd hC dX8_span_68 (fun x17_ e17 => ?_)
          try have t17 : x17_.toInt = x3.toInt + x16_.toInt := by rw [e17]; exact ti_add (by omega) (by omega)
          refine r_callS hC (As := [.int x2, .int x17_]) (rest := [.ref a13_]) (c_X8_row g (xL X) K len I12 J R hs12 x2 x17_ (by omega) (by omega) (by omega) (by omega)) mT_3_192 mT_1_1 mT_3_197 mT_3_191 okX8_row ⟨by decide, by decide⟩ rfl rfl (Nat.le_of_ble_eq_true rfl) ⟨by decide, by decide⟩ dX8_span_69 (aI0 (F := fun st M => P g X 13 72 [(7, .int x15_), (6, .ref a12_), (0, .ref a0), (1, .int x1), (2, .int x2), (3, .int x3), (4, .int x4), (5, .int x5)] st _ _ M) (M := (K, len, I12, J, R)) fun x18_ h18 => ?_)
          have k18_0 := h18
          show P g X 13 72 [(7, .int x15_), (6, .ref a12_), (0, .ref a0), (1, .int x1), (2, .int x2), (3, .int x3), (4, .int x4), (5, .int x5)] [.int x18_, .ref a13_] _ _ (K, len, I12, J, R)
          refine x_iaload hC hk13 hn13 (by decide) rfl rfl dX8_span_72 (by omega) (by omega) (fun x19_ e19 => ?_)
          refine r_istore hC (lv' := [(8, .int x19_), (7, .int x15_), (6, .ref a12_), (0, .ref a0), (1, .int x1), (2, .int x2), (3, .int x3), (4, .int x4), (5, .int x5)]) dX8_span_73 (by decide) rfl ?_
          refine r_bipush hC (v := (-2)) dX8_span_75 (by decide) (by decide) (fun x20_ e20 t20 => ?_)
          refine r_istore hC (lv' := [(9, .int x20_), (8, .int x19_), (7, .int x15_), (6, .ref a12_), (0, .ref a0), (1, .int x1), (2, .int x2), (3, .int x3), (4, .int x4), (5, .int x5)]) dX8_span_77 (by decide) rfl ?_
          refine r_iconst hC (v := (-1)) dX8_span_79 (by decide) (by decide) (fun x21_ e21 t21 => ?_)
          refine r_istore hC (lv' := [(10, .int x21_), (9, .int x20_), (8, .int x19_), (7, .int x15_), (6, .ref a12_), (0, .ref a0), (1, .int x1), (2, .int x2), (3, .int x3), (4, .int x4), (5, .int x5)]) dX8_span_80 (by decide) rfl ?_
          have LP22 : ∀ (mu : Nat) (x22_10 : Int32) (x22_9 : Int32) (v22_0 : -1 ≤ x22_10.toInt) (v22_1 : x22_10.toInt ≤ 2), (2 - x22_10.toInt).toNat = mu → P g X 13 82 [(0, .ref a0), (1, .int x1), (2, .int x2), (3, .int x3), (4, .int x4), (5, .int x5), (6, .ref a12_), (7, .int x15_), (8, .int x19_), (9, .int x22_9), (10, .int x22_10)] [] 0 0 (K, len, I12, J, R) := by
            intro mu; induction mu using Nat.strongRecOn with | ind mu ih => ?_
            intro x22_10 x22_9 v22_0 v22_1 hmu
            have ih22 := ih
            clear ih
            have hmu22 := hmu
            clear hmu
            refine r_iload hC dX8_span_82 10 rfl ?_
            refine r_iconst hC (v := (1)) dX8_span_84 (by decide) (by decide) (fun x23_ e23 t23 => ?_)
            refine r_icmp_gt hC (tgt := 171) dX8_span_85 (by decide) (fun c24 => ?_) (fun c24 => ?_)
            · refine r_aload_n hC dX8_span_171 0 rfl ?_
              refine r_iload hC dX8_span_172 9 rfl ?_
              refine r_callV hC (As := [.int x22_9]) (rest := []) (ci := 8) (c_X8_answer g (xL X) K len I12 J R hs12 a0 ka0 x22_9) mT_3_115 mT_1_1 mT_3_112 mT_3_114 mP_21 okX8_answer ⟨by decide, by decide⟩ rfl (by show kO (K a0) = _; rw [ka0]; rfl) rfl rfl (Nat.le_of_ble_eq_true rfl) ⟨by decide, by decide⟩ dX8_span_174 (aI1 (F := fun st M => P g X 13 177 [(0, .ref a0), (1, .int x1), (2, .int x2), (3, .int x3), (4, .int x4), (5, .int x5), (6, .ref a12_), (7, .int x15_), (8, .int x19_), (9, .int x22_9), (10, .int x22_10)] st _ _ M) (M := (K, len, I12, J, R)) fun x25_ I25 h25 => ?_)
              obtain ⟨hs25, hf25, k25_0, k25_1⟩ := h25
              show P g X 13 177 [(0, .ref a0), (1, .int x1), (2, .int x2), (3, .int x3), (4, .int x4), (5, .int x5), (6, .ref a12_), (7, .int x15_), (8, .int x19_), (9, .int x22_9), (10, .int x22_10)] [.int x25_] _ _ (K, len, I25, J, R)
              have hF25 : Fr K [(1, 5), (1, 6), (9, 12), (43, 999), (50, 999), (51, 999), (52, 999), (53, 999), (54, 999)] I I25 := hF12.trans hf25 rfl rfl
              exact r_iret hC hQ hlk hr rfl (by decide) (by decide) dX8_span_177 ⟨_, _, rfl, rfl, ⟨hs25, hF25, (by omega)⟩⟩
            · refine r_iconst hC (v := (-1)) dX8_span_88 (by decide) (by decide) (fun x26_ e26 t26 => ?_)
              refine r_istore hC (lv' := [(11, .int x26_), (0, .ref a0), (1, .int x1), (2, .int x2), (3, .int x3), (4, .int x4), (5, .int x5), (6, .ref a12_), (7, .int x15_), (8, .int x19_), (9, .int x22_9), (10, .int x22_10)]) dX8_span_89 (by decide) rfl ?_
              have LP27 : ∀ (mu : Nat) (x27_11 : Int32) (x27_9 : Int32) (v27_0 : -1 ≤ x27_11.toInt) (v27_1 : x27_11.toInt ≤ 2), (2 - x27_11.toInt).toNat = mu → P g X 13 91 [(0, .ref a0), (1, .int x1), (2, .int x2), (3, .int x3), (4, .int x4), (5, .int x5), (6, .ref a12_), (7, .int x15_), (8, .int x19_), (9, .int x27_9), (10, .int x22_10), (11, .int x27_11)] [] 0 0 (K, len, I12, J, R) := by
                intro mu; induction mu using Nat.strongRecOn with | ind mu ih => ?_
                intro x27_11 x27_9 v27_0 v27_1 hmu
                have ih27 := ih
                clear ih
                have hmu27 := hmu
                clear hmu
                refine r_iload hC dX8_span_91 11 rfl ?_
                refine r_iconst hC (v := (1)) dX8_span_93 (by decide) (by decide) (fun x28_ e28 t28 => ?_)
                refine r_icmp_gt hC (tgt := 165) dX8_span_94 (by decide) (fun c29 => ?_) (fun c29 => ?_)
                · obtain ⟨x30_, e30⟩ : ∃ z : Int32, z = x22_10 + Int32.ofInt (1) := ⟨_, rfl⟩
                  refine r_iinc hC (j := 10) (v := x30_) (lv' := [(10, .int x30_), (0, .ref a0), (1, .int x1), (2, .int x2), (3, .int x3), (4, .int x4), (5, .int x5), (6, .ref a12_), (7, .int x15_), (8, .int x19_), (9, .int x27_9), (11, .int x27_11)]) dX8_span_165 rfl (by rw [e30]) (by decide) rfl ?_
                  try have t30 : x30_.toInt = x22_10.toInt + (1) := by rw [e30]; exact (ti_add (b := Int32.ofInt (1)) (by show _ ≤ _ + (1 : Int); omega) (by show _ + (1 : Int) ≤ _; omega))
                  refine r_goto hC (tgt := 82) dX8_span_168 (by decide) ?_
                  refine r_sub [1, 2, 3, 4, 5, 6, 7, 8, 9, 10, 0] rfl ?_
                  exact ih22 ((2 - x30_.toInt).toNat) (by omega) x30_ x27_9 (by omega) (by omega) rfl
                · refine r_iload_n hC dX8_span_97 3 rfl ?_
                  refine r_iload hC dX8_span_98 7 rfl ?_
                  refine r_iload hC dX8_span_100 10 rfl ?_
                  refine r_iload hC dX8_span_102 4 rfl ?_
                  refine r_imul hC dX8_span_104 (fun x31_ e31 => ?_)
                  refine r_iadd hC dX8_span_105 (fun x32_ e32 => ?_)
                  try have t32 : x32_.toInt = x15_.toInt + x31_.toInt := by rw [e32]; exact ti_add (by omega) (by omega)
                  refine r_iload hC dX8_span_106 8 rfl ?_
                  refine r_iload hC dX8_span_108 11 rfl ?_
                  refine r_iload hC dX8_span_110 4 rfl ?_
                  refine r_imul hC dX8_span_112 (fun x33_ e33 => ?_)
                  refine r_iadd hC dX8_span_113 (fun x34_ e34 => ?_)
                  try have t34 : x34_.toInt = x19_.toInt + x33_.toInt := by rw [e34]; exact ti_add (by omega) (by omega)
                  refine r_callS hC (As := [.int x3, .int x32_, .int x34_]) (rest := []) (c_X8_noughtBy g (xL X) K len I12 J R hs12 x3 x32_ x34_) mT_4_62 mT_1_1 mT_4_60 mT_4_61 okX8_noughtBy ⟨by decide, by decide⟩ rfl rfl (Nat.le_of_ble_eq_true rfl) ⟨by decide, by decide⟩ dX8_span_114 (aI0 (F := fun st M => P g X 13 117 [(0, .ref a0), (1, .int x1), (2, .int x2), (3, .int x3), (4, .int x4), (5, .int x5), (6, .ref a12_), (7, .int x15_), (8, .int x19_), (9, .int x27_9), (10, .int x22_10), (11, .int x27_11)] st _ _ M) (M := (K, len, I12, J, R)) fun x35_ h35 => ?_)
                  skip
                  show P g X 13 117 [(0, .ref a0), (1, .int x1), (2, .int x2), (3, .int x3), (4, .int x4), (5, .int x5), (6, .ref a12_), (7, .int x15_), (8, .int x19_), (9, .int x27_9), (10, .int x22_10), (11, .int x27_11)] [.int x35_] _ _ (K, len, I12, J, R)
                  refine r_istore hC (lv' := [(12, .int x35_), (0, .ref a0), (1, .int x1), (2, .int x2), (3, .int x3), (4, .int x4), (5, .int x5), (6, .ref a12_), (7, .int x15_), (8, .int x19_), (9, .int x27_9), (10, .int x22_10), (11, .int x27_11)]) dX8_span_117 (by decide) rfl ?_
                  refine r_iload hC dX8_span_119 0 rfl ?_
                  refine r_bipush hC (v := (-2)) dX8_span_121 (by decide) (by decide) (fun x36_ e36 t36 => ?_)
                  refine r_icmp_eq hC (tgt := 159) dX8_span_123 (by decide) (fun c37 => ?_) (fun c37 => ?_)
                  · obtain ⟨x38_, e38⟩ : ∃ z : Int32, z = x27_11 + Int32.ofInt (1) := ⟨_, rfl⟩
                    refine r_iinc hC (j := 12) (v := x38_) (lv' := [(11, .int x38_), (12, .int x35_), (0, .ref a0), (1, .int x1), (2, .int x2), (3, .int x3), (4, .int x4), (5, .int x5), (6, .ref a12_), (7, .int x15_), (8, .int x19_), (9, .int x27_9), (10, .int x22_10)]) dX8_span_159 rfl (by rw [e38]) (by decide) rfl ?_
                    try have t38 : x38_.toInt = x27_11.toInt + (1) := by rw [e38]; exact (ti_add (b := Int32.ofInt (1)) (by show _ ≤ _ + (1 : Int); omega) (by show _ + (1 : Int) ≤ _; omega))
                    refine r_goto hC (tgt := 91) dX8_span_162 (by decide) ?_
                    refine r_sub [2, 3, 4, 5, 6, 7, 8, 9, 10, 11, 12, 0] rfl ?_
                    exact ih27 ((2 - x38_.toInt).toNat) (by omega) x38_ x27_9 (by omega) (by omega) rfl
                  · refine r_iload hC dX8_span_126 10 rfl ?_
                    refine r_bipush hC (v := (-2)) dX8_span_128 (by decide) (by decide) (fun x39_ e39 t39 => ?_)
                    refine r_icmp_eq hC (tgt := 155) dX8_span_130 (by decide) (fun c40 => ?_) (fun c40 => ?_)
                    · refine r_iload hC dX8_span_155 0 rfl ?_
                      refine r_istore hC (lv' := [(9, .int x35_), (12, .int x35_), (0, .ref a0), (1, .int x1), (2, .int x2), (3, .int x3), (4, .int x4), (5, .int x5), (6, .ref a12_), (7, .int x15_), (8, .int x19_), (10, .int x22_10), (11, .int x27_11)]) dX8_span_157 (by decide) rfl ?_
                      obtain ⟨x41_, e41⟩ : ∃ z : Int32, z = x27_11 + Int32.ofInt (1) := ⟨_, rfl⟩
                      refine r_iinc hC (j := 12) (v := x41_) (lv' := [(11, .int x41_), (9, .int x35_), (12, .int x35_), (0, .ref a0), (1, .int x1), (2, .int x2), (3, .int x3), (4, .int x4), (5, .int x5), (6, .ref a12_), (7, .int x15_), (8, .int x19_), (10, .int x22_10)]) dX8_span_159 rfl (by rw [e41]) (by decide) rfl ?_
                      try have t41 : x41_.toInt = x27_11.toInt + (1) := by rw [e41]; exact (ti_add (b := Int32.ofInt (1)) (by show _ ≤ _ + (1 : Int); omega) (by show _ + (1 : Int) ≤ _; omega))
                      refine r_goto hC (tgt := 91) dX8_span_162 (by decide) ?_
                      refine r_sub [3, 4, 5, 6, 7, 8, 9, 10, 11, 1, 12, 0] rfl ?_
                      exact ih27 ((2 - x41_.toInt).toNat) (by omega) x41_ x35_ (by omega) (by omega) rfl
                    · refine r_iload hC dX8_span_133 6 rfl ?_
                      refine r_if_eq hC (tgt := 148) dX8_span_135 (by decide) (fun c42 => ?_) (fun c42 => ?_)
                      · refine r_iload hC dX8_span_148 0 rfl ?_
                        refine r_iload hC dX8_span_150 10 rfl ?_
                        refine r_icmp_ge hC (tgt := 159) dX8_span_152 (by decide) (fun c43 => ?_) (fun c43 => ?_)
                        · obtain ⟨x44_, e44⟩ : ∃ z : Int32, z = x27_11 + Int32.ofInt (1) := ⟨_, rfl⟩
                          refine r_iinc hC (j := 12) (v := x44_) (lv' := [(11, .int x44_), (12, .int x35_), (0, .ref a0), (1, .int x1), (2, .int x2), (3, .int x3), (4, .int x4), (5, .int x5), (6, .ref a12_), (7, .int x15_), (8, .int x19_), (9, .int x27_9), (10, .int x22_10)]) dX8_span_159 rfl (by rw [e44]) (by decide) rfl ?_
                          try have t44 : x44_.toInt = x27_11.toInt + (1) := by rw [e44]; exact (ti_add (b := Int32.ofInt (1)) (by show _ ≤ _ + (1 : Int); omega) (by show _ + (1 : Int) ≤ _; omega))
                          refine r_goto hC (tgt := 91) dX8_span_162 (by decide) ?_
                          refine r_sub [2, 3, 4, 5, 6, 7, 8, 9, 10, 11, 12, 0] rfl ?_
                          exact ih27 ((2 - x44_.toInt).toNat) (by omega) x44_ x27_9 (by omega) (by omega) rfl
                        · refine r_iload hC dX8_span_155 0 rfl ?_
                          refine r_istore hC (lv' := [(9, .int x35_), (12, .int x35_), (0, .ref a0), (1, .int x1), (2, .int x2), (3, .int x3), (4, .int x4), (5, .int x5), (6, .ref a12_), (7, .int x15_), (8, .int x19_), (10, .int x22_10), (11, .int x27_11)]) dX8_span_157 (by decide) rfl ?_
                          obtain ⟨x45_, e45⟩ : ∃ z : Int32, z = x27_11 + Int32.ofInt (1) := ⟨_, rfl⟩
                          refine r_iinc hC (j := 12) (v := x45_) (lv' := [(11, .int x45_), (9, .int x35_), (12, .int x35_), (0, .ref a0), (1, .int x1), (2, .int x2), (3, .int x3), (4, .int x4), (5, .int x5), (6, .ref a12_), (7, .int x15_), (8, .int x19_), (10, .int x22_10)]) dX8_span_159 rfl (by rw [e45]) (by decide) rfl ?_
                          try have t45 : x45_.toInt = x27_11.toInt + (1) := by rw [e45]; exact (ti_add (b := Int32.ofInt (1)) (by show _ ≤ _ + (1 : Int); omega) (by show _ + (1 : Int) ≤ _; omega))
                          refine r_goto hC (tgt := 91) dX8_span_162 (by decide) ?_
                          refine r_sub [3, 4, 5, 6, 7, 8, 9, 10, 11, 1, 12, 0] rfl ?_
                          exact ih27 ((2 - x45_.toInt).toNat) (by omega) x45_ x35_ (by omega) (by omega) rfl
                      · refine r_iload hC dX8_span_138 0 rfl ?_
                        refine r_iload hC dX8_span_140 10 rfl ?_
                        refine r_icmp_le hC (tgt := 159) dX8_span_142 (by decide) (fun c46 => ?_) (fun c46 => ?_)
                        · obtain ⟨x47_, e47⟩ : ∃ z : Int32, z = x27_11 + Int32.ofInt (1) := ⟨_, rfl⟩
                          refine r_iinc hC (j := 12) (v := x47_) (lv' := [(11, .int x47_), (12, .int x35_), (0, .ref a0), (1, .int x1), (2, .int x2), (3, .int x3), (4, .int x4), (5, .int x5), (6, .ref a12_), (7, .int x15_), (8, .int x19_), (9, .int x27_9), (10, .int x22_10)]) dX8_span_159 rfl (by rw [e47]) (by decide) rfl ?_
                          try have t47 : x47_.toInt = x27_11.toInt + (1) := by rw [e47]; exact (ti_add (b := Int32.ofInt (1)) (by show _ ≤ _ + (1 : Int); omega) (by show _ + (1 : Int) ≤ _; omega))
                          refine r_goto hC (tgt := 91) dX8_span_162 (by decide) ?_
                          refine r_sub [2, 3, 4, 5, 6, 7, 8, 9, 10, 11, 12, 0] rfl ?_
                          exact ih27 ((2 - x47_.toInt).toNat) (by omega) x47_ x27_9 (by omega) (by omega) rfl
                        · refine r_goto hC (tgt := 155) dX8_span_145 (by decide) ?_
                          refine r_iload hC dX8_span_155 0 rfl ?_
                          refine r_istore hC (lv' := [(9, .int x35_), (12, .int x35_), (0, .ref a0), (1, .int x1), (2, .int x2), (3, .int x3), (4, .int x4), (5, .int x5), (6, .ref a12_), (7, .int x15_), (8, .int x19_), (10, .int x22_10), (11, .int x27_11)]) dX8_span_157 (by decide) rfl ?_
                          obtain ⟨x48_, e48⟩ : ∃ z : Int32, z = x27_11 + Int32.ofInt (1) := ⟨_, rfl⟩
                          refine r_iinc hC (j := 12) (v := x48_) (lv' := [(11, .int x48_), (9, .int x35_), (12, .int x35_), (0, .ref a0), (1, .int x1), (2, .int x2), (3, .int x3), (4, .int x4), (5, .int x5), (6, .ref a12_), (7, .int x15_), (8, .int x19_), (10, .int x22_10)]) dX8_span_159 rfl (by rw [e48]) (by decide) rfl ?_
                          try have t48 : x48_.toInt = x27_11.toInt + (1) := by rw [e48]; exact (ti_add (b := Int32.ofInt (1)) (by show _ ≤ _ + (1 : Int); omega) (by show _ + (1 : Int) ≤ _; omega))
                          refine r_goto hC (tgt := 91) dX8_span_162 (by decide) ?_
                          refine r_sub [3, 4, 5, 6, 7, 8, 9, 10, 11, 1, 12, 0] rfl ?_
                          exact ih27 ((2 - x48_.toInt).toNat) (by omega) x48_ x35_ (by omega) (by omega) rfl
              refine r_sub [1, 2, 3, 4, 5, 6, 7, 8, 9, 10, 11, 0] rfl ?_
              exact LP27 _ x26_ x22_9 (by omega) (by omega) rfl
          refine r_sub [5, 6, 7, 8, 9, 10, 4, 3, 2, 1, 0] rfl ?_
          exact LP22 _ x21_ x20_ (by omega) (by omega) rfl
        · refine r_aload_n hC dX8_span_34 0 rfl ?_
          refine r_iconst hC (v := (2)) dX8_span_35 (by decide) (by decide) (fun x49_ e49 t49 => ?_)
          refine r_callV hC (As := [.int x49_]) (rest := []) (ci := 8) (c_X8_refuse g (xL X) K len I J R hs a0 ka0 x49_) mT_2_133 mT_1_1 mT_2_130 mT_2_132 mP_0 okX8_refuse ⟨by decide, by decide⟩ rfl (by show kO (K a0) = _; rw [ka0]; rfl) rfl rfl (Nat.le_of_ble_eq_true rfl) ⟨by decide, by decide⟩ dX8_span_36 (aI1 (F := fun st M => P g X 13 39 [(0, .ref a0), (1, .int x1), (2, .int x2), (3, .int x3), (4, .int x4), (5, .int x5)] st _ _ M) (M := (K, len, I, J, R)) fun x50_ I50 h50 => ?_)
          obtain ⟨hs50, hf50, k50_0, k50_1⟩ := h50
          show P g X 13 39 [(0, .ref a0), (1, .int x1), (2, .int x2), (3, .int x3), (4, .int x4), (5, .int x5)] [.int x50_] _ _ (K, len, I50, J, R)
          have hF50 : Fr K [(1, 5), (1, 6), (9, 12), (43, 999), (50, 999), (51, 999), (52, 999), (53, 999), (54, 999)] I I50 := hF.trans hf50 rfl rfl
          exact r_iret hC hQ hlk hr rfl (by decide) (by decide) dX8_span_39 ⟨_, _, rfl, rfl, ⟨hs50, hF50, (by omega)⟩⟩
    · refine r_aload_n hC dX8_span_16 0 rfl ?_
      refine r_iconst hC (v := (1)) dX8_span_17 (by decide) (by decide) (fun x51_ e51 t51 => ?_)
      refine r_callV hC (As := [.int x51_]) (rest := []) (ci := 8) (c_X8_refuse g (xL X) K len I J R hs a0 ka0 x51_) mT_2_133 mT_1_1 mT_2_130 mT_2_132 mP_0 okX8_refuse ⟨by decide, by decide⟩ rfl (by show kO (K a0) = _; rw [ka0]; rfl) rfl rfl (Nat.le_of_ble_eq_true rfl) ⟨by decide, by decide⟩ dX8_span_18 (aI1 (F := fun st M => P g X 13 21 [(0, .ref a0), (1, .int x1), (2, .int x2), (3, .int x3), (4, .int x4), (5, .int x5)] st _ _ M) (M := (K, len, I, J, R)) fun x52_ I52 h52 => ?_)
      obtain ⟨hs52, hf52, k52_0, k52_1⟩ := h52
      show P g X 13 21 [(0, .ref a0), (1, .int x1), (2, .int x2), (3, .int x3), (4, .int x4), (5, .int x5)] [.int x52_] _ _ (K, len, I52, J, R)
      have hF52 : Fr K [(1, 5), (1, 6), (9, 12), (43, 999), (50, 999), (51, 999), (52, 999), (53, 999), (54, 999)] I I52 := hF.trans hf52 rfl rfl
      exact r_iret hC hQ hlk hr rfl (by decide) (by decide) dX8_span_21 ⟨_, _, rfl, rfl, ⟨hs52, hF52, (by omega)⟩⟩
set_option maxHeartbeats 4000000 in
set_option maxRecDepth 100000 in
theorem c_X8_bore (g : GG) (l : Launch) (K len : Nat → Nat) (I : Nat → Nat → Int32) (J : Nat → Nat → Int64) (R : Nat → Nat → Option Nat) (hs : Sf K len I R) (a0 : Nat) (ka0 : K a0 = 9) : Ct g l yX8_bore cX8_bore 5 (Option.some Jvm.ClassFile.FieldType.int) rmX8_bore [.ref a0] (K, len, I, J, R) (pI1 (K, len, I, J, R) (fun r I' => Sf K len I' R ∧ Fr K [(1, 5), (1, 6), (9, 12), (43, 999), (50, 999), (51, 999), (52, 999), (53, 999), (54, 999), (67, 999), (68, 999)] I I' ∧ ((I' a0 12).toInt ≠ 4))) := by
  refine Ct_intro (by decide +kernel) (Nat.le_of_ble_eq_true rfl) (fun X hC hL hKK hNm hr hlk hQ => ?_)
  subst hL
  have hC : Cx g X cX8_bore "HillTap" 5 rmX8_bore := hC
  show P g X 5 0 [(0, .ref a0)] [] 0 0 (K, len, I, J, R)
  have hF : Fr K [(1, 5), (1, 6), (9, 12), (43, 999), (50, 999), (51, 999), (52, 999), (53, 999), (54, 999), (67, 999), (68, 999)] I I := Fr.refl
  refine r_aload_n hC dX8_bore_0 0 rfl ?_
  refine r_callV hC (As := []) (rest := []) (ci := 8) (c_X8_noHill g (xL X) K len I J R hs a0 ka0) mT_3_131 mT_1_1 mT_3_128 mT_3_130 mP_22 okX8_noHill ⟨by decide, by decide⟩ rfl (by show kO (K a0) = _; rw [ka0]; rfl) rfl rfl (Nat.le_of_ble_eq_true rfl) ⟨by decide, by decide⟩ dX8_bore_1 (aI0 (F := fun st M => P g X 5 4 [(0, .ref a0)] st _ _ M) (M := (K, len, I, J, R)) fun x1_ h1 => ?_)
  obtain ⟨k1_0, k1_1⟩ := h1
  show P g X 5 4 [(0, .ref a0)] [.int x1_] _ _ (K, len, I, J, R)
  refine r_if_eq hC (tgt := 13) dX8_bore_4 (by decide) (fun c2 => ?_) (fun c2 => ?_)
  · refine r_aload_n hC dX8_bore_13 0 rfl ?_
    refine r_callV hC (As := []) (rest := []) (ci := 8) (c_X8_findFits g (xL X) K len I J R hs a0 ka0) mT_3_226 mT_1_1 mT_3_223 mT_3_225 mP_33 okX8_findFits ⟨by decide, by decide⟩ rfl (by show kO (K a0) = _; rw [ka0]; rfl) rfl rfl (Nat.le_of_ble_eq_true rfl) ⟨by decide, by decide⟩ dX8_bore_14 (aV1 (F := fun st M => P g X 5 17 [(0, .ref a0)] st _ _ M) (M := (K, len, I, J, R)) fun I3 h3 => ?_)
    obtain ⟨hs3, hf3⟩ := h3
    show P g X 5 17 [(0, .ref a0)] [] _ _ (K, len, I3, J, R)
    have hF3 : Fr K [(1, 5), (1, 6), (9, 12), (43, 999), (50, 999), (51, 999), (52, 999), (53, 999), (54, 999), (67, 999), (68, 999)] I I3 := hF.trans hf3 rfl rfl
    refine r_aload_n hC dX8_bore_17 0 rfl ?_
    refine r_callV hC (As := []) (rest := []) (ci := 8) (c_X8_weightOfFits g (xL X) K len I3 J R hs3 a0 ka0) mT_4_15 mT_1_1 mT_4_12 mT_4_14 mP_36 okX8_weightOfFits ⟨by decide, by decide⟩ rfl (by show kO (K a0) = _; rw [ka0]; rfl) rfl rfl (Nat.le_of_ble_eq_true rfl) ⟨by decide, by decide⟩ dX8_bore_18 (aI0 (F := fun st M => P g X 5 21 [(0, .ref a0)] st _ _ M) (M := (K, len, I3, J, R)) fun x4_ h4 => ?_)
    skip
    show P g X 5 21 [(0, .ref a0)] [.int x4_] _ _ (K, len, I3, J, R)
    refine r_if_ne hC (tgt := 31) dX8_bore_21 (by decide) (fun c5 => ?_) (fun c5 => ?_)
    · refine r_iconst hC (v := (0)) dX8_bore_31 (by decide) (by decide) (fun x6_ e6 t6 => ?_)
      refine r_istore_n hC (lv' := [(1, .int x6_), (0, .ref a0)]) dX8_bore_32 (by decide) rfl ?_
      refine r_aload_n hC dX8_bore_33 1 rfl ?_
      refine r_iconst hC (v := (0)) dX8_bore_34 (by decide) (by decide) (fun x7_ e7 t7 => ?_)
      refine r_callV hC (As := [.int x7_]) (rest := []) (ci := 8) (c_X8_greatestAlike g (xL X) K len I3 J R hs3 a0 ka0 x7_) mT_4_106 mT_1_1 mT_4_103 mT_4_105 mP_43 okX8_greatestAlike ⟨by decide, by decide⟩ rfl (by show kO (K a0) = _; rw [ka0]; rfl) rfl rfl (Nat.le_of_ble_eq_true rfl) ⟨by decide, by decide⟩ dX8_bore_35 (aI1 (F := fun st M => P g X 5 38 [(1, .int x6_), (0, .ref a0)] st _ _ M) (M := (K, len, I3, J, R)) fun x8_ I8 h8 => ?_)
      obtain ⟨hs8, hf8⟩ := h8
      show P g X 5 38 [(1, .int x6_), (0, .ref a0)] [.int x8_] _ _ (K, len, I8, J, R)
      have hF8 : Fr K [(1, 5), (1, 6), (9, 12), (43, 999), (50, 999), (51, 999), (52, 999), (53, 999), (54, 999), (67, 999), (68, 999)] I I8 := hF3.trans hf8 rfl rfl
      refine r_istore_n hC (lv' := [(2, .int x8_), (1, .int x6_), (0, .ref a0)]) dX8_bore_38 (by decide) rfl ?_
      refine r_iconst hC (v := (1)) dX8_bore_39 (by decide) (by decide) (fun x9_ e9 t9 => ?_)
      refine r_istore_n hC (lv' := [(3, .int x9_), (2, .int x8_), (1, .int x6_), (0, .ref a0)]) dX8_bore_40 (by decide) rfl ?_
      have LP10 : ∀ (mu : Nat) (x10_3 : Int32) (x10_2 : Int32) (x10_1 : Int32) (I10 : Nat → Nat → Int32) (hs10 : Sf K len I10 R) (hF10 : Fr K [(1, 5), (1, 6), (9, 12), (43, 999), (50, 999), (51, 999), (52, 999), (53, 999), (54, 999), (67, 999), (68, 999)] I I10) (v10_0 : 1 ≤ x10_3.toInt) (v10_1 : x10_3.toInt ≤ 100), (100 - x10_3.toInt).toNat = mu → P g X 5 41 [(0, .ref a0), (1, .int x10_1), (2, .int x10_2), (3, .int x10_3)] [] 0 0 (K, len, I10, J, R) := by
        intro mu; induction mu using Nat.strongRecOn with | ind mu ih => ?_
        intro x10_3 x10_2 x10_1 I10 hs10 hF10 v10_0 v10_1 hmu
        have ih10 := ih
        clear ih
        have hmu10 := hmu
        clear hmu
        refine r_iload_n hC dX8_bore_41 3 rfl ?_
        refine r_bipush hC (v := (99)) dX8_bore_42 (by decide) (by decide) (fun x11_ e11 t11 => ?_)
        refine r_icmp_gt hC (tgt := 71) dX8_bore_44 (by decide) (fun c12 => ?_) (fun c12 => ?_)
        · refine r_aload_n hC dX8_bore_71 0 rfl ?_
          refine r_iload_n hC dX8_bore_72 1 rfl ?_
          refine r_callV hC (As := [.int x10_1]) (rest := []) (ci := 8) (c_X8_answer g (xL X) K len I10 J R hs10 a0 ka0 x10_1) mT_3_115 mT_1_1 mT_3_112 mT_3_114 mP_21 okX8_answer ⟨by decide, by decide⟩ rfl (by show kO (K a0) = _; rw [ka0]; rfl) rfl rfl (Nat.le_of_ble_eq_true rfl) ⟨by decide, by decide⟩ dX8_bore_73 (aI1 (F := fun st M => P g X 5 76 [(0, .ref a0), (1, .int x10_1), (2, .int x10_2), (3, .int x10_3)] st _ _ M) (M := (K, len, I10, J, R)) fun x13_ I13 h13 => ?_)
          obtain ⟨hs13, hf13, k13_0, k13_1⟩ := h13
          show P g X 5 76 [(0, .ref a0), (1, .int x10_1), (2, .int x10_2), (3, .int x10_3)] [.int x13_] _ _ (K, len, I13, J, R)
          have hF13 : Fr K [(1, 5), (1, 6), (9, 12), (43, 999), (50, 999), (51, 999), (52, 999), (53, 999), (54, 999), (67, 999), (68, 999)] I I13 := hF10.trans hf13 rfl rfl
          exact r_iret hC hQ hlk hr rfl (by decide) (by decide) dX8_bore_76 ⟨_, _, rfl, rfl, ⟨hs13, hF13, (by omega)⟩⟩
        · refine r_aload_n hC dX8_bore_47 0 rfl ?_
          refine r_iload_n hC dX8_bore_48 3 rfl ?_
          refine r_callV hC (As := [.int x10_3]) (rest := []) (ci := 8) (c_X8_greatestAlike g (xL X) K len I10 J R hs10 a0 ka0 x10_3) mT_4_106 mT_1_1 mT_4_103 mT_4_105 mP_43 okX8_greatestAlike ⟨by decide, by decide⟩ rfl (by show kO (K a0) = _; rw [ka0]; rfl) rfl rfl (Nat.le_of_ble_eq_true rfl) ⟨by decide, by decide⟩ dX8_bore_49 (aI1 (F := fun st M => P g X 5 52 [(0, .ref a0), (1, .int x10_1), (2, .int x10_2), (3, .int x10_3)] st _ _ M) (M := (K, len, I10, J, R)) fun x14_ I14 h14 => ?_)
          obtain ⟨hs14, hf14⟩ := h14
          show P g X 5 52 [(0, .ref a0), (1, .int x10_1), (2, .int x10_2), (3, .int x10_3)] [.int x14_] _ _ (K, len, I14, J, R)
          have hF14 : Fr K [(1, 5), (1, 6), (9, 12), (43, 999), (50, 999), (51, 999), (52, 999), (53, 999), (54, 999), (67, 999), (68, 999)] I I14 := hF10.trans hf14 rfl rfl
          refine r_istore hC (lv' := [(4, .int x14_), (0, .ref a0), (1, .int x10_1), (2, .int x10_2), (3, .int x10_3)]) dX8_bore_52 (by decide) rfl ?_
          refine r_iload hC dX8_bore_54 0 rfl ?_
          refine r_iload_n hC dX8_bore_56 3 rfl ?_
          refine r_icmp_ge hC (tgt := 65) dX8_bore_57 (by decide) (fun c15 => ?_) (fun c15 => ?_)
          · obtain ⟨x16_, e16⟩ : ∃ z : Int32, z = x10_3 + Int32.ofInt (1) := ⟨_, rfl⟩
            refine r_iinc hC (j := 4) (v := x16_) (lv' := [(3, .int x16_), (4, .int x14_), (0, .ref a0), (1, .int x10_1), (2, .int x10_2)]) dX8_bore_65 rfl (by rw [e16]) (by decide) rfl ?_
            try have t16 : x16_.toInt = x10_3.toInt + (1) := by rw [e16]; exact (ti_add (b := Int32.ofInt (1)) (by show _ ≤ _ + (1 : Int); omega) (by show _ + (1 : Int) ≤ _; omega))
            refine r_goto hC (tgt := 41) dX8_bore_68 (by decide) ?_
            refine r_sub [2, 3, 4, 0] rfl ?_
            exact ih10 ((100 - x16_.toInt).toNat) (by omega) x16_ x10_2 x10_1 I14 hs14 hF14 (by omega) (by omega) rfl
          · refine r_iload hC dX8_bore_60 0 rfl ?_
            refine r_istore_n hC (lv' := [(2, .int x14_), (4, .int x14_), (0, .ref a0), (1, .int x10_1), (3, .int x10_3)]) dX8_bore_62 (by decide) rfl ?_
            refine r_iload_n hC dX8_bore_63 4 rfl ?_
            refine r_istore_n hC (lv' := [(1, .int x10_3), (2, .int x14_), (4, .int x14_), (0, .ref a0), (3, .int x10_3)]) dX8_bore_64 (by decide) rfl ?_
            obtain ⟨x17_, e17⟩ : ∃ z : Int32, z = x10_3 + Int32.ofInt (1) := ⟨_, rfl⟩
            refine r_iinc hC (j := 4) (v := x17_) (lv' := [(3, .int x17_), (1, .int x10_3), (2, .int x14_), (4, .int x14_), (0, .ref a0)]) dX8_bore_65 rfl (by rw [e17]) (by decide) rfl ?_
            try have t17 : x17_.toInt = x10_3.toInt + (1) := by rw [e17]; exact (ti_add (b := Int32.ofInt (1)) (by show _ ≤ _ + (1 : Int); omega) (by show _ + (1 : Int) ≤ _; omega))
            refine r_goto hC (tgt := 41) dX8_bore_68 (by decide) ?_
            refine r_sub [4, 1, 2, 0] rfl ?_
            exact ih10 ((100 - x17_.toInt).toNat) (by omega) x17_ x14_ x10_3 I14 hs14 hF14 (by omega) (by omega) rfl
      refine r_sub [3, 2, 1, 0] rfl ?_
      exact LP10 _ x9_ x8_ x6_ I8 hs8 hF8 (by omega) (by omega) rfl
    · refine r_aload_n hC dX8_bore_24 0 rfl ?_
      refine r_bipush hC (v := (6)) dX8_bore_25 (by decide) (by decide) (fun x18_ e18 t18 => ?_)
      refine r_callV hC (As := [.int x18_]) (rest := []) (ci := 8) (c_X8_refuse g (xL X) K len I3 J R hs3 a0 ka0 x18_) mT_2_133 mT_1_1 mT_2_130 mT_2_132 mP_0 okX8_refuse ⟨by decide, by decide⟩ rfl (by show kO (K a0) = _; rw [ka0]; rfl) rfl rfl (Nat.le_of_ble_eq_true rfl) ⟨by decide, by decide⟩ dX8_bore_27 (aI1 (F := fun st M => P g X 5 30 [(0, .ref a0)] st _ _ M) (M := (K, len, I3, J, R)) fun x19_ I19 h19 => ?_)
      obtain ⟨hs19, hf19, k19_0, k19_1⟩ := h19
      show P g X 5 30 [(0, .ref a0)] [.int x19_] _ _ (K, len, I19, J, R)
      have hF19 : Fr K [(1, 5), (1, 6), (9, 12), (43, 999), (50, 999), (51, 999), (52, 999), (53, 999), (54, 999), (67, 999), (68, 999)] I I19 := hF3.trans hf19 rfl rfl
      exact r_iret hC hQ hlk hr rfl (by decide) (by decide) dX8_bore_30 ⟨_, _, rfl, rfl, ⟨hs19, hF19, (by omega)⟩⟩
  · refine r_aload_n hC dX8_bore_7 0 rfl ?_
    refine r_iconst hC (v := (1)) dX8_bore_8 (by decide) (by decide) (fun x20_ e20 t20 => ?_)
    refine r_callV hC (As := [.int x20_]) (rest := []) (ci := 8) (c_X8_refuse g (xL X) K len I J R hs a0 ka0 x20_) mT_2_133 mT_1_1 mT_2_130 mT_2_132 mP_0 okX8_refuse ⟨by decide, by decide⟩ rfl (by show kO (K a0) = _; rw [ka0]; rfl) rfl rfl (Nat.le_of_ble_eq_true rfl) ⟨by decide, by decide⟩ dX8_bore_9 (aI1 (F := fun st M => P g X 5 12 [(0, .ref a0)] st _ _ M) (M := (K, len, I, J, R)) fun x21_ I21 h21 => ?_)
    obtain ⟨hs21, hf21, k21_0, k21_1⟩ := h21
    show P g X 5 12 [(0, .ref a0)] [.int x21_] _ _ (K, len, I21, J, R)
    have hF21 : Fr K [(1, 5), (1, 6), (9, 12), (43, 999), (50, 999), (51, 999), (52, 999), (53, 999), (54, 999), (67, 999), (68, 999)] I I21 := hF.trans hf21 rfl rfl
    exact r_iret hC hQ hlk hr rfl (by decide) (by decide) dX8_bore_12 ⟨_, _, rfl, rfl, ⟨hs21, hF21, (by omega)⟩⟩
set_option maxHeartbeats 4000000 in
set_option maxRecDepth 100000 in
theorem c_X8_struck (g : GG) (l : Launch) (K len : Nat → Nat) (I : Nat → Nat → Int32) (J : Nat → Nat → Int64) (R : Nat → Nat → Option Nat) (hs : Sf K len I R) (a0 : Nat) (ka0 : K a0 = 9) (x1 : Int32) (x2 : Int32) : Ct g l yX8_struck cX8_struck 3 (Option.some Jvm.ClassFile.FieldType.int) rmX8_struck [.ref a0, .int x1, .int x2] (K, len, I, J, R) (pI1 (K, len, I, J, R) (fun r I' => Sf K len I' R ∧ Fr K [(1, 5), (1, 6), (9, 12), (43, 999), (50, 999), (51, 999), (52, 999), (53, 999), (54, 999)] I I' ∧ ((I' a0 12).toInt ≠ 4))) := by
  refine Ct_intro (by decide +kernel) (Nat.le_of_ble_eq_true rfl) (fun X hC hL hKK hNm hr hlk hQ => ?_)
  subst hL
  have hC : Cx g X cX8_struck "HillTap" 3 rmX8_struck := hC
  show P g X 3 0 [(0, .ref a0), (1, .int x1), (2, .int x2)] [] 0 0 (K, len, I, J, R)
  have hF : Fr K [(1, 5), (1, 6), (9, 12), (43, 999), (50, 999), (51, 999), (52, 999), (53, 999), (54, 999)] I I := Fr.refl
  have b_x1 := ti_rng x1
  have b_x2 := ti_rng x2
  refine r_aload_n hC dX8_struck_0 0 rfl ?_
  refine r_iload_n hC dX8_struck_1 1 rfl ?_
  refine r_callV hC (As := [.int x1]) (rest := []) (ci := 8) (c_X8_isStory g (xL X) K len I J R hs a0 ka0 x1) mT_3_155 mT_1_1 mT_3_152 mT_3_154 mP_24 okX8_isStory ⟨by decide, by decide⟩ rfl (by show kO (K a0) = _; rw [ka0]; rfl) rfl rfl (Nat.le_of_ble_eq_true rfl) ⟨by decide, by decide⟩ dX8_struck_2 (aI0 (F := fun st M => P g X 3 5 [(0, .ref a0), (1, .int x1), (2, .int x2)] st _ _ M) (M := (K, len, I, J, R)) fun x1_ h1 => ?_)
  obtain ⟨k1_0, k1_1, k1_2⟩ := h1
  show P g X 3 5 [(0, .ref a0), (1, .int x1), (2, .int x2)] [.int x1_] _ _ (K, len, I, J, R)
  refine r_if_eq hC (tgt := 16) dX8_struck_5 (by decide) (fun c2 => ?_) (fun c2 => ?_)
  · refine r_aload_n hC dX8_struck_16 0 rfl ?_
    refine r_iconst hC (v := (1)) dX8_struck_17 (by decide) (by decide) (fun x3_ e3 t3 => ?_)
    refine r_callV hC (As := [.int x3_]) (rest := []) (ci := 8) (c_X8_refuse g (xL X) K len I J R hs a0 ka0 x3_) mT_2_133 mT_1_1 mT_2_130 mT_2_132 mP_0 okX8_refuse ⟨by decide, by decide⟩ rfl (by show kO (K a0) = _; rw [ka0]; rfl) rfl rfl (Nat.le_of_ble_eq_true rfl) ⟨by decide, by decide⟩ dX8_struck_18 (aI1 (F := fun st M => P g X 3 21 [(0, .ref a0), (1, .int x1), (2, .int x2)] st _ _ M) (M := (K, len, I, J, R)) fun x4_ I4 h4 => ?_)
    obtain ⟨hs4, hf4, k4_0, k4_1⟩ := h4
    show P g X 3 21 [(0, .ref a0), (1, .int x1), (2, .int x2)] [.int x4_] _ _ (K, len, I4, J, R)
    have hF4 : Fr K [(1, 5), (1, 6), (9, 12), (43, 999), (50, 999), (51, 999), (52, 999), (53, 999), (54, 999)] I I4 := hF.trans hf4 rfl rfl
    exact r_iret hC hQ hlk hr rfl (by decide) (by decide) dX8_struck_21 ⟨_, _, rfl, rfl, ⟨hs4, hF4, (by omega)⟩⟩
  · refine r_aload_n hC dX8_struck_8 0 rfl ?_
    refine r_iload_n hC dX8_struck_9 2 rfl ?_
    refine r_callV hC (As := [.int x2]) (rest := []) (ci := 8) (c_X8_isVillage g (xL X) K len I J R hs a0 ka0 x2) mT_4_119 mT_1_1 mT_4_116 mT_4_118 mP_45 okX8_isVillage ⟨by decide, by decide⟩ rfl (by show kO (K a0) = _; rw [ka0]; rfl) rfl rfl (Nat.le_of_ble_eq_true rfl) ⟨by decide, by decide⟩ dX8_struck_10 (aI0 (F := fun st M => P g X 3 13 [(0, .ref a0), (1, .int x1), (2, .int x2)] st _ _ M) (M := (K, len, I, J, R)) fun x5_ h5 => ?_)
    obtain ⟨k5_0, k5_1, k5_2⟩ := h5
    show P g X 3 13 [(0, .ref a0), (1, .int x1), (2, .int x2)] [.int x5_] _ _ (K, len, I, J, R)
    refine r_if_ne hC (tgt := 22) dX8_struck_13 (by decide) (fun c6 => ?_) (fun c6 => ?_)
    · refine r_aload_n hC dX8_struck_22 0 rfl ?_
      refine r_aload_n hC dX8_struck_23 0 rfl ?_
      refine r_iload_n hC dX8_struck_24 1 rfl ?_
      refine r_iload_n hC dX8_struck_25 2 rfl ?_
      refine r_callV hC (As := [.int x1, .int x2]) (rest := [.ref a0]) (ci := 8) (c_X8_strikes g (xL X) K len I J R hs a0 ka0 x1 x2 (by omega) (by omega) (by omega) (by omega)) mT_4_123 mT_1_1 mT_4_120 mT_4_122 mP_46 okX8_strikes ⟨by decide, by decide⟩ rfl (by show kO (K a0) = _; rw [ka0]; rfl) rfl rfl (Nat.le_of_ble_eq_true rfl) ⟨by decide, by decide⟩ dX8_struck_26 (aI1 (F := fun st M => P g X 3 29 [(0, .ref a0), (1, .int x1), (2, .int x2)] st _ _ M) (M := (K, len, I, J, R)) fun x7_ I7 h7 => ?_)
      obtain ⟨hs7, hf7, k7_0, k7_1⟩ := h7
      show P g X 3 29 [(0, .ref a0), (1, .int x1), (2, .int x2)] [.int x7_, .ref a0] _ _ (K, len, I7, J, R)
      have hF7 : Fr K [(1, 5), (1, 6), (9, 12), (43, 999), (50, 999), (51, 999), (52, 999), (53, 999), (54, 999)] I I7 := hF.trans hf7 rfl rfl
      refine r_if_eq hC (tgt := 36) dX8_struck_29 (by decide) (fun c8 => ?_) (fun c8 => ?_)
      · refine r_iconst hC (v := (0)) dX8_struck_36 (by decide) (by decide) (fun x9_ e9 t9 => ?_)
        refine r_callV hC (As := [.int x9_]) (rest := []) (ci := 8) (c_X8_answer g (xL X) K len I7 J R hs7 a0 ka0 x9_) mT_3_115 mT_1_1 mT_3_112 mT_3_114 mP_21 okX8_answer ⟨by decide, by decide⟩ rfl (by show kO (K a0) = _; rw [ka0]; rfl) rfl rfl (Nat.le_of_ble_eq_true rfl) ⟨by decide, by decide⟩ dX8_struck_37 (aI1 (F := fun st M => P g X 3 40 [(0, .ref a0), (1, .int x1), (2, .int x2)] st _ _ M) (M := (K, len, I7, J, R)) fun x10_ I10 h10 => ?_)
        obtain ⟨hs10, hf10, k10_0, k10_1⟩ := h10
        show P g X 3 40 [(0, .ref a0), (1, .int x1), (2, .int x2)] [.int x10_] _ _ (K, len, I10, J, R)
        have hF10 : Fr K [(1, 5), (1, 6), (9, 12), (43, 999), (50, 999), (51, 999), (52, 999), (53, 999), (54, 999)] I I10 := hF7.trans hf10 rfl rfl
        exact r_iret hC hQ hlk hr rfl (by decide) (by decide) dX8_struck_40 ⟨_, _, rfl, rfl, ⟨hs10, hF10, (by omega)⟩⟩
      · refine r_iconst hC (v := (1)) dX8_struck_32 (by decide) (by decide) (fun x11_ e11 t11 => ?_)
        refine r_goto hC (tgt := 37) dX8_struck_33 (by decide) ?_
        refine r_callV hC (As := [.int x11_]) (rest := []) (ci := 8) (c_X8_answer g (xL X) K len I7 J R hs7 a0 ka0 x11_) mT_3_115 mT_1_1 mT_3_112 mT_3_114 mP_21 okX8_answer ⟨by decide, by decide⟩ rfl (by show kO (K a0) = _; rw [ka0]; rfl) rfl rfl (Nat.le_of_ble_eq_true rfl) ⟨by decide, by decide⟩ dX8_struck_37 (aI1 (F := fun st M => P g X 3 40 [(0, .ref a0), (1, .int x1), (2, .int x2)] st _ _ M) (M := (K, len, I7, J, R)) fun x12_ I12 h12 => ?_)
        obtain ⟨hs12, hf12, k12_0, k12_1⟩ := h12
        show P g X 3 40 [(0, .ref a0), (1, .int x1), (2, .int x2)] [.int x12_] _ _ (K, len, I12, J, R)
        have hF12 : Fr K [(1, 5), (1, 6), (9, 12), (43, 999), (50, 999), (51, 999), (52, 999), (53, 999), (54, 999)] I I12 := hF7.trans hf12 rfl rfl
        exact r_iret hC hQ hlk hr rfl (by decide) (by decide) dX8_struck_40 ⟨_, _, rfl, rfl, ⟨hs12, hF12, (by omega)⟩⟩
    · refine r_aload_n hC dX8_struck_16 0 rfl ?_
      refine r_iconst hC (v := (1)) dX8_struck_17 (by decide) (by decide) (fun x13_ e13 t13 => ?_)
      refine r_callV hC (As := [.int x13_]) (rest := []) (ci := 8) (c_X8_refuse g (xL X) K len I J R hs a0 ka0 x13_) mT_2_133 mT_1_1 mT_2_130 mT_2_132 mP_0 okX8_refuse ⟨by decide, by decide⟩ rfl (by show kO (K a0) = _; rw [ka0]; rfl) rfl rfl (Nat.le_of_ble_eq_true rfl) ⟨by decide, by decide⟩ dX8_struck_18 (aI1 (F := fun st M => P g X 3 21 [(0, .ref a0), (1, .int x1), (2, .int x2)] st _ _ M) (M := (K, len, I, J, R)) fun x14_ I14 h14 => ?_)
      obtain ⟨hs14, hf14, k14_0, k14_1⟩ := h14
      show P g X 3 21 [(0, .ref a0), (1, .int x1), (2, .int x2)] [.int x14_] _ _ (K, len, I14, J, R)
      have hF14 : Fr K [(1, 5), (1, 6), (9, 12), (43, 999), (50, 999), (51, 999), (52, 999), (53, 999), (54, 999)] I I14 := hF.trans hf14 rfl rfl
      exact r_iret hC hQ hlk hr rfl (by decide) (by decide) dX8_struck_21 ⟨_, _, rfl, rfl, ⟨hs14, hF14, (by omega)⟩⟩
set_option maxHeartbeats 4000000 in
set_option maxRecDepth 100000 in
theorem c_X8_dead (g : GG) (l : Launch) (K len : Nat → Nat) (I : Nat → Nat → Int32) (J : Nat → Nat → Int64) (R : Nat → Nat → Option Nat) (hs : Sf K len I R) (a0 : Nat) (ka0 : K a0 = 9) (x1 : Int32) (x2 : Int32) : Ct g l yX8_dead cX8_dead 6 (Option.some Jvm.ClassFile.FieldType.int) rmX8_dead [.ref a0, .int x1, .int x2] (K, len, I, J, R) (pI1 (K, len, I, J, R) (fun r I' => Sf K len I' R ∧ Fr K [(1, 5), (1, 6), (9, 12), (43, 999), (50, 999), (51, 999), (52, 999), (53, 999), (54, 999)] I I' ∧ ((I' a0 12).toInt ≠ 4))) := by
  refine Ct_intro (by decide +kernel) (Nat.le_of_ble_eq_true rfl) (fun X hC hL hKK hNm hr hlk hQ => ?_)
  subst hL
  have hC : Cx g X cX8_dead "HillTap" 6 rmX8_dead := hC
  show P g X 6 0 [(0, .ref a0), (1, .int x1), (2, .int x2)] [] 0 0 (K, len, I, J, R)
  have hF : Fr K [(1, 5), (1, 6), (9, 12), (43, 999), (50, 999), (51, 999), (52, 999), (53, 999), (54, 999)] I I := Fr.refl
  have b_x1 := ti_rng x1
  have b_x2 := ti_rng x2
  refine r_aload_n hC dX8_dead_0 0 rfl ?_
  refine r_iload_n hC dX8_dead_1 1 rfl ?_
  refine r_callV hC (As := [.int x1]) (rest := []) (ci := 8) (c_X8_isStory g (xL X) K len I J R hs a0 ka0 x1) mT_3_155 mT_1_1 mT_3_152 mT_3_154 mP_24 okX8_isStory ⟨by decide, by decide⟩ rfl (by show kO (K a0) = _; rw [ka0]; rfl) rfl rfl (Nat.le_of_ble_eq_true rfl) ⟨by decide, by decide⟩ dX8_dead_2 (aI0 (F := fun st M => P g X 6 5 [(0, .ref a0), (1, .int x1), (2, .int x2)] st _ _ M) (M := (K, len, I, J, R)) fun x1_ h1 => ?_)
  obtain ⟨k1_0, k1_1, k1_2⟩ := h1
  show P g X 6 5 [(0, .ref a0), (1, .int x1), (2, .int x2)] [.int x1_] _ _ (K, len, I, J, R)
  refine r_if_eq hC (tgt := 15) dX8_dead_5 (by decide) (fun c2 => ?_) (fun c2 => ?_)
  · refine r_aload_n hC dX8_dead_15 0 rfl ?_
    refine r_iconst hC (v := (1)) dX8_dead_16 (by decide) (by decide) (fun x3_ e3 t3 => ?_)
    refine r_callV hC (As := [.int x3_]) (rest := []) (ci := 8) (c_X8_refuse g (xL X) K len I J R hs a0 ka0 x3_) mT_2_133 mT_1_1 mT_2_130 mT_2_132 mP_0 okX8_refuse ⟨by decide, by decide⟩ rfl (by show kO (K a0) = _; rw [ka0]; rfl) rfl rfl (Nat.le_of_ble_eq_true rfl) ⟨by decide, by decide⟩ dX8_dead_17 (aI1 (F := fun st M => P g X 6 20 [(0, .ref a0), (1, .int x1), (2, .int x2)] st _ _ M) (M := (K, len, I, J, R)) fun x4_ I4 h4 => ?_)
    obtain ⟨hs4, hf4, k4_0, k4_1⟩ := h4
    show P g X 6 20 [(0, .ref a0), (1, .int x1), (2, .int x2)] [.int x4_] _ _ (K, len, I4, J, R)
    have hF4 : Fr K [(1, 5), (1, 6), (9, 12), (43, 999), (50, 999), (51, 999), (52, 999), (53, 999), (54, 999)] I I4 := hF.trans hf4 rfl rfl
    exact r_iret hC hQ hlk hr rfl (by decide) (by decide) dX8_dead_20 ⟨_, _, rfl, rfl, ⟨hs4, hF4, (by omega)⟩⟩
  · refine r_iload_n hC dX8_dead_8 2 rfl ?_
    refine r_callS hC (As := [.int x2]) (rest := []) (c_X8_isDay g (xL X) K len I J R hs x2) mT_3_134 mT_1_1 mT_3_132 mT_3_133 okX8_isDay ⟨by decide, by decide⟩ rfl rfl (Nat.le_of_ble_eq_true rfl) ⟨by decide, by decide⟩ dX8_dead_9 (aI0 (F := fun st M => P g X 6 12 [(0, .ref a0), (1, .int x1), (2, .int x2)] st _ _ M) (M := (K, len, I, J, R)) fun x5_ h5 => ?_)
    obtain ⟨k5_0, k5_1, k5_2⟩ := h5
    show P g X 6 12 [(0, .ref a0), (1, .int x1), (2, .int x2)] [.int x5_] _ _ (K, len, I, J, R)
    refine r_if_ne hC (tgt := 21) dX8_dead_12 (by decide) (fun c6 => ?_) (fun c6 => ?_)
    · refine r_aload_n hC dX8_dead_21 0 rfl ?_
      refine r_iload_n hC dX8_dead_22 1 rfl ?_
      refine r_callV hC (As := [.int x1]) (rest := []) (ci := 8) (c_X8_courseOf g (xL X) K len I J R hs a0 ka0 x1 (by omega) (by omega)) mT_3_163 mT_1_1 mT_3_160 mT_3_162 mP_26 okX8_courseOf ⟨by decide, by decide⟩ rfl (by show kO (K a0) = _; rw [ka0]; rfl) rfl rfl (Nat.le_of_ble_eq_true rfl) ⟨by decide, by decide⟩ dX8_dead_23 (aR1 (F := fun st M => P g X 6 26 [(0, .ref a0), (1, .int x1), (2, .int x2)] st _ _ M) (M := (K, len, I, J, R)) fun a7_ I7 h7 => ?_)
      obtain ⟨hs7, hf7, k7_0⟩ := h7
      show P g X 6 26 [(0, .ref a0), (1, .int x1), (2, .int x2)] [.ref a7_] _ _ (K, len, I7, J, R)
      have hF7 : Fr K [(1, 5), (1, 6), (9, 12), (43, 999), (50, 999), (51, 999), (52, 999), (53, 999), (54, 999)] I I7 := hF.trans hf7 rfl rfl
      refine r_geti hC 5 (ci := 0) rfl u0_in (by decide) mT_2_36 dX8_dead_26 k7_0 rfl rfl (fun x8_ e8 => ?_)
      refine r_istore_n hC (lv' := [(3, .int x8_), (0, .ref a0), (1, .int x1), (2, .int x2)]) dX8_dead_29 (by decide) rfl ?_
      refine r_iconst hC (v := (0)) dX8_dead_30 (by decide) (by decide) (fun x9_ e9 t9 => ?_)
      refine r_istore hC (lv' := [(4, .int x9_), (3, .int x8_), (0, .ref a0), (1, .int x1), (2, .int x2)]) dX8_dead_31 (by decide) rfl ?_
      refine r_iconst hC (v := (0)) dX8_dead_33 (by decide) (by decide) (fun x10_ e10 t10 => ?_)
      refine r_istore hC (lv' := [(5, .int x10_), (4, .int x9_), (3, .int x8_), (0, .ref a0), (1, .int x1), (2, .int x2)]) dX8_dead_34 (by decide) rfl ?_
      have LP11 : ∀ (mu : Nat) (x11_5 : Int32) (x11_4 : Int32) (I11 : Nat → Nat → Int32) (hs11 : Sf K len I11 R) (hF11 : Fr K [(1, 5), (1, 6), (9, 12), (43, 999), (50, 999), (51, 999), (52, 999), (53, 999), (54, 999)] I I11) (v11_0 : 0 ≤ x11_5.toInt) (v11_1 : x11_5.toInt ≤ 4), (4 - x11_5.toInt).toNat = mu → P g X 6 36 [(0, .ref a0), (1, .int x1), (2, .int x2), (3, .int x8_), (4, .int x11_4), (5, .int x11_5)] [] 0 0 (K, len, I11, J, R) := by
        intro mu; induction mu using Nat.strongRecOn with | ind mu ih => ?_
        intro x11_5 x11_4 I11 hs11 hF11 v11_0 v11_1 hmu
        have ih11 := ih
        clear ih
        have hmu11 := hmu
        clear hmu
        refine r_iload hC dX8_dead_36 5 rfl ?_
        refine r_aload_n hC dX8_dead_38 0 rfl ?_
        obtain ⟨a12_, hb12, hk12⟩ := hs11.obj ka0 2 2 (by decide)
        refine r_getr hC 2 (ci := 8) rfl u8_in (by decide) mT_2_80 dX8_dead_39 ka0 rfl rfl hb12 ?_
        refine r_geti hC 8 (ci := 1) rfl u1_in (by decide) mT_1_208 dX8_dead_42 hk12 rfl rfl (fun x13_ e13 => ?_)
        have r13 := hs11.rng hk12 rfl e13
        refine r_icmp_ge hC (tgt := 95) dX8_dead_45 (by decide) (fun c14 => ?_) (fun c14 => ?_)
        · refine r_aload_n hC dX8_dead_95 0 rfl ?_
          refine r_iload hC dX8_dead_96 4 rfl ?_
          refine r_callV hC (As := [.int x11_4]) (rest := []) (ci := 8) (c_X8_answer g (xL X) K len I11 J R hs11 a0 ka0 x11_4) mT_3_115 mT_1_1 mT_3_112 mT_3_114 mP_21 okX8_answer ⟨by decide, by decide⟩ rfl (by show kO (K a0) = _; rw [ka0]; rfl) rfl rfl (Nat.le_of_ble_eq_true rfl) ⟨by decide, by decide⟩ dX8_dead_98 (aI1 (F := fun st M => P g X 6 101 [(0, .ref a0), (1, .int x1), (2, .int x2), (3, .int x8_), (4, .int x11_4), (5, .int x11_5)] st _ _ M) (M := (K, len, I11, J, R)) fun x15_ I15 h15 => ?_)
          obtain ⟨hs15, hf15, k15_0, k15_1⟩ := h15
          show P g X 6 101 [(0, .ref a0), (1, .int x1), (2, .int x2), (3, .int x8_), (4, .int x11_4), (5, .int x11_5)] [.int x15_] _ _ (K, len, I15, J, R)
          have hF15 : Fr K [(1, 5), (1, 6), (9, 12), (43, 999), (50, 999), (51, 999), (52, 999), (53, 999), (54, 999)] I I15 := hF11.trans hf15 rfl rfl
          exact r_iret hC hQ hlk hr rfl (by decide) (by decide) dX8_dead_101 ⟨_, _, rfl, rfl, ⟨hs15, hF15, (by omega)⟩⟩
        · refine r_aload_n hC dX8_dead_48 0 rfl ?_
          refine r_iload_n hC dX8_dead_49 1 rfl ?_
          refine r_iload hC dX8_dead_50 5 rfl ?_
          refine r_callV hC (As := [.int x1, .int x11_5]) (rest := []) (ci := 8) (c_X8_strikes g (xL X) K len I11 J R hs11 a0 ka0 x1 x11_5 (by omega) (by omega) (by omega) (by omega)) mT_4_123 mT_1_1 mT_4_120 mT_4_122 mP_46 okX8_strikes ⟨by decide, by decide⟩ rfl (by show kO (K a0) = _; rw [ka0]; rfl) rfl rfl (Nat.le_of_ble_eq_true rfl) ⟨by decide, by decide⟩ dX8_dead_52 (aI1 (F := fun st M => P g X 6 55 [(0, .ref a0), (1, .int x1), (2, .int x2), (3, .int x8_), (4, .int x11_4), (5, .int x11_5)] st _ _ M) (M := (K, len, I11, J, R)) fun x16_ I16 h16 => ?_)
          obtain ⟨hs16, hf16, k16_0, k16_1⟩ := h16
          show P g X 6 55 [(0, .ref a0), (1, .int x1), (2, .int x2), (3, .int x8_), (4, .int x11_4), (5, .int x11_5)] [.int x16_] _ _ (K, len, I16, J, R)
          have hF16 : Fr K [(1, 5), (1, 6), (9, 12), (43, 999), (50, 999), (51, 999), (52, 999), (53, 999), (54, 999)] I I16 := hF11.trans hf16 rfl rfl
          refine r_if_eq hC (tgt := 89) dX8_dead_55 (by decide) (fun c17 => ?_) (fun c17 => ?_)
          · obtain ⟨x18_, e18⟩ : ∃ z : Int32, z = x11_5 + Int32.ofInt (1) := ⟨_, rfl⟩
            refine r_iinc hC (j := 5) (v := x18_) (lv' := [(5, .int x18_), (0, .ref a0), (1, .int x1), (2, .int x2), (3, .int x8_), (4, .int x11_4)]) dX8_dead_89 rfl (by rw [e18]) (by decide) rfl ?_
            try have t18 : x18_.toInt = x11_5.toInt + (1) := by rw [e18]; exact (ti_add (b := Int32.ofInt (1)) (by show _ ≤ _ + (1 : Int); omega) (by show _ + (1 : Int) ≤ _; omega))
            refine r_goto hC (tgt := 36) dX8_dead_92 (by decide) ?_
            refine r_sub [1, 2, 3, 4, 5, 0] rfl ?_
            exact ih11 ((4 - x18_.toInt).toNat) (by omega) x18_ x11_4 I16 hs16 hF16 (by omega) (by omega) rfl
          · refine r_iload_n hC dX8_dead_58 2 rfl ?_
            refine r_aload_n hC dX8_dead_59 0 rfl ?_
            refine r_getr hC 2 (ci := 8) rfl u8_in (by decide) mT_2_80 dX8_dead_60 ka0 rfl rfl hb12 ?_
            obtain ⟨a19_, hb19, hk19, hn19⟩ := hs16.row hk12 11 60 4 (by decide) (by decide)
            refine r_getr hC 11 (ci := 1) rfl u1_in (by decide) mT_1_217 dX8_dead_63 hk12 rfl rfl hb19 ?_
            refine r_iload hC dX8_dead_66 5 rfl ?_
            refine x_iaload hC hk19 hn19 (by decide) rfl rfl dX8_dead_68 (by omega) (by omega) (fun x20_ e20 => ?_)
            refine r_iadd hC dX8_dead_69 (fun x21_ e21 => ?_)
            try have t21 : x21_.toInt = x2.toInt + x20_.toInt := by rw [e21]; exact ti_add (by omega) (by omega)
            refine r_iload_n hC dX8_dead_70 3 rfl ?_
            refine r_icmp_le hC (tgt := 89) dX8_dead_71 (by decide) (fun c22 => ?_) (fun c22 => ?_)
            · obtain ⟨x23_, e23⟩ : ∃ z : Int32, z = x11_5 + Int32.ofInt (1) := ⟨_, rfl⟩
              refine r_iinc hC (j := 5) (v := x23_) (lv' := [(5, .int x23_), (0, .ref a0), (1, .int x1), (2, .int x2), (3, .int x8_), (4, .int x11_4)]) dX8_dead_89 rfl (by rw [e23]) (by decide) rfl ?_
              try have t23 : x23_.toInt = x11_5.toInt + (1) := by rw [e23]; exact (ti_add (b := Int32.ofInt (1)) (by show _ ≤ _ + (1 : Int); omega) (by show _ + (1 : Int) ≤ _; omega))
              refine r_goto hC (tgt := 36) dX8_dead_92 (by decide) ?_
              refine r_sub [1, 2, 3, 4, 5, 0] rfl ?_
              exact ih11 ((4 - x23_.toInt).toNat) (by omega) x23_ x11_4 I16 hs16 hF16 (by omega) (by omega) rfl
            · refine r_iload hC dX8_dead_74 4 rfl ?_
              refine r_aload_n hC dX8_dead_76 0 rfl ?_
              refine r_getr hC 2 (ci := 8) rfl u8_in (by decide) mT_2_80 dX8_dead_77 ka0 rfl rfl hb12 ?_
              obtain ⟨a24_, hb24, hk24, hn24⟩ := hs16.row hk12 10 59 4 (by decide) (by decide)
              refine r_getr hC 10 (ci := 1) rfl u1_in (by decide) mT_1_214 dX8_dead_80 hk12 rfl rfl hb24 ?_
              refine r_iload hC dX8_dead_83 5 rfl ?_
              refine x_iaload hC hk24 hn24 (by decide) rfl rfl dX8_dead_85 (by omega) (by omega) (fun x25_ e25 => ?_)
              refine r_iadd hC dX8_dead_86 (fun x26_ e26 => ?_)
              try have t26 : x26_.toInt = x11_4.toInt + x25_.toInt := by rw [e26]; exact ti_add (by omega) (by omega)
              refine r_istore hC (lv' := [(4, .int x26_), (0, .ref a0), (1, .int x1), (2, .int x2), (3, .int x8_), (5, .int x11_5)]) dX8_dead_87 (by decide) rfl ?_
              obtain ⟨x27_, e27⟩ : ∃ z : Int32, z = x11_5 + Int32.ofInt (1) := ⟨_, rfl⟩
              refine r_iinc hC (j := 5) (v := x27_) (lv' := [(5, .int x27_), (4, .int x26_), (0, .ref a0), (1, .int x1), (2, .int x2), (3, .int x8_)]) dX8_dead_89 rfl (by rw [e27]) (by decide) rfl ?_
              try have t27 : x27_.toInt = x11_5.toInt + (1) := by rw [e27]; exact (ti_add (b := Int32.ofInt (1)) (by show _ ≤ _ + (1 : Int); omega) (by show _ + (1 : Int) ≤ _; omega))
              refine r_goto hC (tgt := 36) dX8_dead_92 (by decide) ?_
              refine r_sub [2, 3, 4, 5, 1, 0] rfl ?_
              exact ih11 ((4 - x27_.toInt).toNat) (by omega) x27_ x26_ I16 hs16 hF16 (by omega) (by omega) rfl
      refine r_sub [3, 4, 5, 2, 1, 0] rfl ?_
      exact LP11 _ x10_ x9_ I7 hs7 hF7 (by omega) (by omega) rfl
    · refine r_aload_n hC dX8_dead_15 0 rfl ?_
      refine r_iconst hC (v := (1)) dX8_dead_16 (by decide) (by decide) (fun x28_ e28 t28 => ?_)
      refine r_callV hC (As := [.int x28_]) (rest := []) (ci := 8) (c_X8_refuse g (xL X) K len I J R hs a0 ka0 x28_) mT_2_133 mT_1_1 mT_2_130 mT_2_132 mP_0 okX8_refuse ⟨by decide, by decide⟩ rfl (by show kO (K a0) = _; rw [ka0]; rfl) rfl rfl (Nat.le_of_ble_eq_true rfl) ⟨by decide, by decide⟩ dX8_dead_17 (aI1 (F := fun st M => P g X 6 20 [(0, .ref a0), (1, .int x1), (2, .int x2)] st _ _ M) (M := (K, len, I, J, R)) fun x29_ I29 h29 => ?_)
      obtain ⟨hs29, hf29, k29_0, k29_1⟩ := h29
      show P g X 6 20 [(0, .ref a0), (1, .int x1), (2, .int x2)] [.int x29_] _ _ (K, len, I29, J, R)
      have hF29 : Fr K [(1, 5), (1, 6), (9, 12), (43, 999), (50, 999), (51, 999), (52, 999), (53, 999), (54, 999)] I I29 := hF.trans hf29 rfl rfl
      exact r_iret hC hQ hlk hr rfl (by decide) (by decide) dX8_dead_20 ⟨_, _, rfl, rfl, ⟨hs29, hF29, (by omega)⟩⟩
set_option maxHeartbeats 4000000 in
set_option maxRecDepth 100000 in
theorem c_X8_tell (g : GG) (l : Launch) (K len : Nat → Nat) (I : Nat → Nat → Int32) (J : Nat → Nat → Int64) (R : Nat → Nat → Option Nat) (hs : Sf K len I R) (a0 : Nat) (ka0 : K a0 = 9) (x1 : Int32) (x2 : Int32) : Ct g l yX8_tell cX8_tell 7 (Option.some Jvm.ClassFile.FieldType.int) rmX8_tell [.ref a0, .int x1, .int x2] (K, len, I, J, R) (pI1 (K, len, I, J, R) (fun r I' => Sf K len I' R ∧ Fr K [(1, 5), (1, 6), (9, 12), (43, 999), (50, 999), (51, 999), (52, 999), (53, 999), (54, 999), (67, 999)] I I' ∧ ((I' a0 12).toInt ≠ 4))) := by
  refine Ct_intro (by decide +kernel) (Nat.le_of_ble_eq_true rfl) (fun X hC hL hKK hNm hr hlk hQ => ?_)
  subst hL
  have hC : Cx g X cX8_tell "HillTap" 7 rmX8_tell := hC
  show P g X 7 0 [(0, .ref a0), (1, .int x1), (2, .int x2)] [] 0 0 (K, len, I, J, R)
  have hF : Fr K [(1, 5), (1, 6), (9, 12), (43, 999), (50, 999), (51, 999), (52, 999), (53, 999), (54, 999), (67, 999)] I I := Fr.refl
  have b_x1 := ti_rng x1
  have b_x2 := ti_rng x2
  refine r_aload_n hC dX8_tell_0 0 rfl ?_
  refine r_iload_n hC dX8_tell_1 1 rfl ?_
  refine r_callV hC (As := [.int x1]) (rest := []) (ci := 8) (c_X8_isVillage g (xL X) K len I J R hs a0 ka0 x1) mT_4_119 mT_1_1 mT_4_116 mT_4_118 mP_45 okX8_isVillage ⟨by decide, by decide⟩ rfl (by show kO (K a0) = _; rw [ka0]; rfl) rfl rfl (Nat.le_of_ble_eq_true rfl) ⟨by decide, by decide⟩ dX8_tell_2 (aI0 (F := fun st M => P g X 7 5 [(0, .ref a0), (1, .int x1), (2, .int x2)] st _ _ M) (M := (K, len, I, J, R)) fun x1_ h1 => ?_)
  obtain ⟨k1_0, k1_1, k1_2⟩ := h1
  show P g X 7 5 [(0, .ref a0), (1, .int x1), (2, .int x2)] [.int x1_] _ _ (K, len, I, J, R)
  refine r_if_ne hC (tgt := 14) dX8_tell_5 (by decide) (fun c2 => ?_) (fun c2 => ?_)
  · refine r_iload_n hC dX8_tell_14 2 rfl ?_
    refine r_if_lt hC (tgt := 24) dX8_tell_15 (by decide) (fun c3 => ?_) (fun c3 => ?_)
    · refine r_aload_n hC dX8_tell_24 0 rfl ?_
      refine r_iconst hC (v := (2)) dX8_tell_25 (by decide) (by decide) (fun x4_ e4 t4 => ?_)
      refine r_callV hC (As := [.int x4_]) (rest := []) (ci := 8) (c_X8_refuse g (xL X) K len I J R hs a0 ka0 x4_) mT_2_133 mT_1_1 mT_2_130 mT_2_132 mP_0 okX8_refuse ⟨by decide, by decide⟩ rfl (by show kO (K a0) = _; rw [ka0]; rfl) rfl rfl (Nat.le_of_ble_eq_true rfl) ⟨by decide, by decide⟩ dX8_tell_26 (aI1 (F := fun st M => P g X 7 29 [(0, .ref a0), (1, .int x1), (2, .int x2)] st _ _ M) (M := (K, len, I, J, R)) fun x5_ I5 h5 => ?_)
      obtain ⟨hs5, hf5, k5_0, k5_1⟩ := h5
      show P g X 7 29 [(0, .ref a0), (1, .int x1), (2, .int x2)] [.int x5_] _ _ (K, len, I5, J, R)
      have hF5 : Fr K [(1, 5), (1, 6), (9, 12), (43, 999), (50, 999), (51, 999), (52, 999), (53, 999), (54, 999), (67, 999)] I I5 := hF.trans hf5 rfl rfl
      exact r_iret hC hQ hlk hr rfl (by decide) (by decide) dX8_tell_29 ⟨_, _, rfl, rfl, ⟨hs5, hF5, (by omega)⟩⟩
    · refine r_iload_n hC dX8_tell_18 2 rfl ?_
      refine r_ldc hC (n := 999999) (v := 999999) mT_4_132 dX8_tell_19 (by decide) (fun x6_ e6 t6 => ?_)
      refine r_icmp_le hC (tgt := 30) dX8_tell_21 (by decide) (fun c7 => ?_) (fun c7 => ?_)
      · refine r_aload_n hC dX8_tell_30 0 rfl ?_
        refine r_callV hC (As := []) (rest := []) (ci := 8) (c_X8_findFits g (xL X) K len I J R hs a0 ka0) mT_3_226 mT_1_1 mT_3_223 mT_3_225 mP_33 okX8_findFits ⟨by decide, by decide⟩ rfl (by show kO (K a0) = _; rw [ka0]; rfl) rfl rfl (Nat.le_of_ble_eq_true rfl) ⟨by decide, by decide⟩ dX8_tell_31 (aV1 (F := fun st M => P g X 7 34 [(0, .ref a0), (1, .int x1), (2, .int x2)] st _ _ M) (M := (K, len, I, J, R)) fun I8 h8 => ?_)
        obtain ⟨hs8, hf8⟩ := h8
        show P g X 7 34 [(0, .ref a0), (1, .int x1), (2, .int x2)] [] _ _ (K, len, I8, J, R)
        have hF8 : Fr K [(1, 5), (1, 6), (9, 12), (43, 999), (50, 999), (51, 999), (52, 999), (53, 999), (54, 999), (67, 999)] I I8 := hF.trans hf8 rfl rfl
        refine r_aload_n hC dX8_tell_34 0 rfl ?_
        refine r_callV hC (As := []) (rest := []) (ci := 8) (c_X8_weightOfFits g (xL X) K len I8 J R hs8 a0 ka0) mT_4_15 mT_1_1 mT_4_12 mT_4_14 mP_36 okX8_weightOfFits ⟨by decide, by decide⟩ rfl (by show kO (K a0) = _; rw [ka0]; rfl) rfl rfl (Nat.le_of_ble_eq_true rfl) ⟨by decide, by decide⟩ dX8_tell_35 (aI0 (F := fun st M => P g X 7 38 [(0, .ref a0), (1, .int x1), (2, .int x2)] st _ _ M) (M := (K, len, I8, J, R)) fun x9_ h9 => ?_)
        skip
        show P g X 7 38 [(0, .ref a0), (1, .int x1), (2, .int x2)] [.int x9_] _ _ (K, len, I8, J, R)
        refine r_istore_n hC (lv' := [(3, .int x9_), (0, .ref a0), (1, .int x1), (2, .int x2)]) dX8_tell_38 (by decide) rfl ?_
        refine r_iload_n hC dX8_tell_39 0 rfl ?_
        refine r_if_ne hC (tgt := 50) dX8_tell_40 (by decide) (fun c10 => ?_) (fun c10 => ?_)
        · refine r_iconst hC (v := (0)) dX8_tell_50 (by decide) (by decide) (fun x11_ e11 t11 => ?_)
          refine r_istore hC (lv' := [(4, .int x11_), (3, .int x9_), (0, .ref a0), (1, .int x1), (2, .int x2)]) dX8_tell_51 (by decide) rfl ?_
          refine r_bipush hC (v := (60)) dX8_tell_53 (by decide) (by decide) (fun x12_ e12 t12 => ?_)
          refine r_istore hC (lv' := [(5, .int x12_), (4, .int x11_), (3, .int x9_), (0, .ref a0), (1, .int x1), (2, .int x2)]) dX8_tell_55 (by decide) rfl ?_
          refine r_iconst hC (v := (0)) dX8_tell_57 (by decide) (by decide) (fun x13_ e13 t13 => ?_)
          refine r_istore hC (lv' := [(6, .int x13_), (5, .int x12_), (4, .int x11_), (3, .int x9_), (0, .ref a0), (1, .int x1), (2, .int x2)]) dX8_tell_58 (by decide) rfl ?_
          have LP14 : ∀ (mu : Nat) (x14_6 : Int32) (x14_5 : Int32) (x14_4 : Int32) (I14 : Nat → Nat → Int32) (hs14 : Sf K len I14 R) (hF14 : Fr K [(1, 5), (1, 6), (9, 12), (43, 999), (50, 999), (51, 999), (52, 999), (53, 999), (54, 999), (67, 999)] I I14) (v14_0 : 0 ≤ x14_6.toInt) (v14_1 : x14_6.toInt ≤ 6), (6 - x14_6.toInt).toNat = mu → P g X 7 60 [(0, .ref a0), (1, .int x1), (2, .int x2), (3, .int x9_), (4, .int x14_4), (5, .int x14_5), (6, .int x14_6)] [] 0 0 (K, len, I14, J, R) := by
            intro mu; induction mu using Nat.strongRecOn with | ind mu ih => ?_
            intro x14_6 x14_5 x14_4 I14 hs14 hF14 v14_0 v14_1 hmu
            have ih14 := ih
            clear ih
            have hmu14 := hmu
            clear hmu
            refine r_iload hC dX8_tell_60 6 rfl ?_
            refine r_aload_n hC dX8_tell_62 0 rfl ?_
            obtain ⟨a15_, hb15, hk15⟩ := hs14.obj ka0 2 2 (by decide)
            refine r_getr hC 2 (ci := 8) rfl u8_in (by decide) mT_2_80 dX8_tell_63 ka0 rfl rfl hb15 ?_
            refine r_geti hC 6 (ci := 1) rfl u1_in (by decide) mT_1_202 dX8_tell_66 hk15 rfl rfl (fun x16_ e16 => ?_)
            have r16 := hs14.rng hk15 rfl e16
            refine r_icmp_ge hC (tgt := 131) dX8_tell_69 (by decide) (fun c17 => ?_) (fun c17 => ?_)
            · refine r_iload hC dX8_tell_131 4 rfl ?_
              refine r_if_eq hC (tgt := 154) dX8_tell_133 (by decide) (fun c18 => ?_) (fun c18 => ?_)
              · refine r_aload_n hC dX8_tell_154 0 rfl ?_
                refine r_bipush hC (v := (-2)) dX8_tell_155 (by decide) (by decide) (fun x19_ e19 t19 => ?_)
                refine r_callV hC (As := [.int x19_]) (rest := []) (ci := 8) (c_X8_answer g (xL X) K len I14 J R hs14 a0 ka0 x19_) mT_3_115 mT_1_1 mT_3_112 mT_3_114 mP_21 okX8_answer ⟨by decide, by decide⟩ rfl (by show kO (K a0) = _; rw [ka0]; rfl) rfl rfl (Nat.le_of_ble_eq_true rfl) ⟨by decide, by decide⟩ dX8_tell_157 (aI1 (F := fun st M => P g X 7 160 [(0, .ref a0), (1, .int x1), (2, .int x2), (3, .int x9_), (4, .int x14_4), (5, .int x14_5), (6, .int x14_6)] st _ _ M) (M := (K, len, I14, J, R)) fun x20_ I20 h20 => ?_)
                obtain ⟨hs20, hf20, k20_0, k20_1⟩ := h20
                show P g X 7 160 [(0, .ref a0), (1, .int x1), (2, .int x2), (3, .int x9_), (4, .int x14_4), (5, .int x14_5), (6, .int x14_6)] [.int x20_] _ _ (K, len, I20, J, R)
                have hF20 : Fr K [(1, 5), (1, 6), (9, 12), (43, 999), (50, 999), (51, 999), (52, 999), (53, 999), (54, 999), (67, 999)] I I20 := hF14.trans hf20 rfl rfl
                exact r_iret hC hQ hlk hr rfl (by decide) (by decide) dX8_tell_160 ⟨_, _, rfl, rfl, ⟨hs20, hF20, (by omega)⟩⟩
              · refine r_iload hC dX8_tell_136 4 rfl ?_
                refine r_aload_n hC dX8_tell_138 0 rfl ?_
                refine r_getr hC 2 (ci := 8) rfl u8_in (by decide) mT_2_80 dX8_tell_139 ka0 rfl rfl hb15 ?_
                obtain ⟨a21_, hb21, hk21, hn21⟩ := hs14.row hk15 10 59 4 (by decide) (by decide)
                refine r_getr hC 10 (ci := 1) rfl u1_in (by decide) mT_1_214 dX8_tell_142 hk15 rfl rfl hb21 ?_
                refine r_iload_n hC dX8_tell_145 1 rfl ?_
                refine x_iaload hC hk21 hn21 (by decide) rfl rfl dX8_tell_146 (by omega) (by omega) (fun x22_ e22 => ?_)
                refine r_imul hC dX8_tell_147 (fun x23_ e23 => ?_)
                refine r_iload_n hC dX8_tell_148 2 rfl ?_
                refine r_iload_n hC dX8_tell_149 3 rfl ?_
                refine r_imul hC dX8_tell_150 (fun x24_ e24 => ?_)
                refine r_icmp_ge hC (tgt := 161) dX8_tell_151 (by decide) (fun c25 => ?_) (fun c25 => ?_)
                · refine r_aload_n hC dX8_tell_161 0 rfl ?_
                  refine r_iconst hC (v := (0)) dX8_tell_162 (by decide) (by decide) (fun x26_ e26 t26 => ?_)
                  refine r_iload hC dX8_tell_163 5 rfl ?_
                  refine r_aload_n hC dX8_tell_165 0 rfl ?_
                  refine r_getr hC 2 (ci := 8) rfl u8_in (by decide) mT_2_80 dX8_tell_166 ka0 rfl rfl hb15 ?_
                  obtain ⟨a27_, hb27, hk27, hn27⟩ := hs14.row hk15 11 60 4 (by decide) (by decide)
                  refine r_getr hC 11 (ci := 1) rfl u1_in (by decide) mT_1_217 dX8_tell_169 hk15 rfl rfl hb27 ?_
                  refine r_iload_n hC dX8_tell_172 1 rfl ?_
                  refine x_iaload hC hk27 hn27 (by decide) rfl rfl dX8_tell_173 (by omega) (by omega) (fun x28_ e28 => ?_)
                  refine r_isub hC dX8_tell_174 (fun x29_ e29 => ?_)
                  try have t29 : x29_.toInt = x14_5.toInt - x28_.toInt := by rw [e29]; exact ti_sub (by omega) (by omega)
                  refine r_mmax hC mT_4_111 mT_3_11 mT_1_12 mT_3_12 (by decide) (Nat.le_of_ble_eq_true rfl) (Nat.zero_le _) (Nat.zero_le _) dX8_tell_175 (fun x30_ e30 t30a t30b t30c => ?_)
                  refine r_callV hC (As := [.int x30_]) (rest := []) (ci := 8) (c_X8_answer g (xL X) K len I14 J R hs14 a0 ka0 x30_) mT_3_115 mT_1_1 mT_3_112 mT_3_114 mP_21 okX8_answer ⟨by decide, by decide⟩ rfl (by show kO (K a0) = _; rw [ka0]; rfl) rfl rfl (Nat.le_of_ble_eq_true rfl) ⟨by decide, by decide⟩ dX8_tell_178 (aI1 (F := fun st M => P g X 7 181 [(0, .ref a0), (1, .int x1), (2, .int x2), (3, .int x9_), (4, .int x14_4), (5, .int x14_5), (6, .int x14_6)] st _ _ M) (M := (K, len, I14, J, R)) fun x31_ I31 h31 => ?_)
                  obtain ⟨hs31, hf31, k31_0, k31_1⟩ := h31
                  show P g X 7 181 [(0, .ref a0), (1, .int x1), (2, .int x2), (3, .int x9_), (4, .int x14_4), (5, .int x14_5), (6, .int x14_6)] [.int x31_] _ _ (K, len, I31, J, R)
                  have hF31 : Fr K [(1, 5), (1, 6), (9, 12), (43, 999), (50, 999), (51, 999), (52, 999), (53, 999), (54, 999), (67, 999)] I I31 := hF14.trans hf31 rfl rfl
                  exact r_iret hC hQ hlk hr rfl (by decide) (by decide) dX8_tell_181 ⟨_, _, rfl, rfl, ⟨hs31, hF31, (by omega)⟩⟩
                · refine r_aload_n hC dX8_tell_154 0 rfl ?_
                  refine r_bipush hC (v := (-2)) dX8_tell_155 (by decide) (by decide) (fun x32_ e32 t32 => ?_)
                  refine r_callV hC (As := [.int x32_]) (rest := []) (ci := 8) (c_X8_answer g (xL X) K len I14 J R hs14 a0 ka0 x32_) mT_3_115 mT_1_1 mT_3_112 mT_3_114 mP_21 okX8_answer ⟨by decide, by decide⟩ rfl (by show kO (K a0) = _; rw [ka0]; rfl) rfl rfl (Nat.le_of_ble_eq_true rfl) ⟨by decide, by decide⟩ dX8_tell_157 (aI1 (F := fun st M => P g X 7 160 [(0, .ref a0), (1, .int x1), (2, .int x2), (3, .int x9_), (4, .int x14_4), (5, .int x14_5), (6, .int x14_6)] st _ _ M) (M := (K, len, I14, J, R)) fun x33_ I33 h33 => ?_)
                  obtain ⟨hs33, hf33, k33_0, k33_1⟩ := h33
                  show P g X 7 160 [(0, .ref a0), (1, .int x1), (2, .int x2), (3, .int x9_), (4, .int x14_4), (5, .int x14_5), (6, .int x14_6)] [.int x33_] _ _ (K, len, I33, J, R)
                  have hF33 : Fr K [(1, 5), (1, 6), (9, 12), (43, 999), (50, 999), (51, 999), (52, 999), (53, 999), (54, 999), (67, 999)] I I33 := hF14.trans hf33 rfl rfl
                  exact r_iret hC hQ hlk hr rfl (by decide) (by decide) dX8_tell_160 ⟨_, _, rfl, rfl, ⟨hs33, hF33, (by omega)⟩⟩
            · refine r_aload_n hC dX8_tell_72 0 rfl ?_
              refine r_iload hC dX8_tell_73 6 rfl ?_
              refine r_callV hC (As := [.int x14_6]) (rest := []) (ci := 8) (c_X8_isFit g (xL X) K len I14 J R hs14 a0 ka0 x14_6 (by omega) (by omega)) mT_4_7 mT_1_1 mT_4_4 mT_4_6 mP_35 okX8_isFit ⟨by decide, by decide⟩ rfl (by show kO (K a0) = _; rw [ka0]; rfl) rfl rfl (Nat.le_of_ble_eq_true rfl) ⟨by decide, by decide⟩ dX8_tell_75 (aI0 (F := fun st M => P g X 7 78 [(0, .ref a0), (1, .int x1), (2, .int x2), (3, .int x9_), (4, .int x14_4), (5, .int x14_5), (6, .int x14_6)] st _ _ M) (M := (K, len, I14, J, R)) fun x34_ h34 => ?_)
              obtain ⟨k34_0, k34_1⟩ := h34
              show P g X 7 78 [(0, .ref a0), (1, .int x1), (2, .int x2), (3, .int x9_), (4, .int x14_4), (5, .int x14_5), (6, .int x14_6)] [.int x34_] _ _ (K, len, I14, J, R)
              refine r_if_eq hC (tgt := 125) dX8_tell_78 (by decide) (fun c35 => ?_) (fun c35 => ?_)
              · obtain ⟨x36_, e36⟩ : ∃ z : Int32, z = x14_6 + Int32.ofInt (1) := ⟨_, rfl⟩
                refine r_iinc hC (j := 6) (v := x36_) (lv' := [(6, .int x36_), (0, .ref a0), (1, .int x1), (2, .int x2), (3, .int x9_), (4, .int x14_4), (5, .int x14_5)]) dX8_tell_125 rfl (by rw [e36]) (by decide) rfl ?_
                try have t36 : x36_.toInt = x14_6.toInt + (1) := by rw [e36]; exact (ti_add (b := Int32.ofInt (1)) (by show _ ≤ _ + (1 : Int); omega) (by show _ + (1 : Int) ≤ _; omega))
                refine r_goto hC (tgt := 60) dX8_tell_128 (by decide) ?_
                refine r_sub [1, 2, 3, 4, 5, 6, 0] rfl ?_
                exact ih14 ((6 - x36_.toInt).toNat) (by omega) x36_ x14_5 x14_4 I14 hs14 hF14 (by omega) (by omega) rfl
              · refine r_aload_n hC dX8_tell_81 0 rfl ?_
                refine r_iload hC dX8_tell_82 6 rfl ?_
                refine r_iload_n hC dX8_tell_84 1 rfl ?_
                refine r_callV hC (As := [.int x14_6, .int x1]) (rest := []) (ci := 8) (c_X8_strikes g (xL X) K len I14 J R hs14 a0 ka0 x14_6 x1 (by omega) (by omega) (by omega) (by omega)) mT_4_123 mT_1_1 mT_4_120 mT_4_122 mP_46 okX8_strikes ⟨by decide, by decide⟩ rfl (by show kO (K a0) = _; rw [ka0]; rfl) rfl rfl (Nat.le_of_ble_eq_true rfl) ⟨by decide, by decide⟩ dX8_tell_85 (aI1 (F := fun st M => P g X 7 88 [(0, .ref a0), (1, .int x1), (2, .int x2), (3, .int x9_), (4, .int x14_4), (5, .int x14_5), (6, .int x14_6)] st _ _ M) (M := (K, len, I14, J, R)) fun x37_ I37 h37 => ?_)
                obtain ⟨hs37, hf37, k37_0, k37_1⟩ := h37
                show P g X 7 88 [(0, .ref a0), (1, .int x1), (2, .int x2), (3, .int x9_), (4, .int x14_4), (5, .int x14_5), (6, .int x14_6)] [.int x37_] _ _ (K, len, I37, J, R)
                have hF37 : Fr K [(1, 5), (1, 6), (9, 12), (43, 999), (50, 999), (51, 999), (52, 999), (53, 999), (54, 999), (67, 999)] I I37 := hF14.trans hf37 rfl rfl
                refine r_if_eq hC (tgt := 125) dX8_tell_88 (by decide) (fun c38 => ?_) (fun c38 => ?_)
                · obtain ⟨x39_, e39⟩ : ∃ z : Int32, z = x14_6 + Int32.ofInt (1) := ⟨_, rfl⟩
                  refine r_iinc hC (j := 6) (v := x39_) (lv' := [(6, .int x39_), (0, .ref a0), (1, .int x1), (2, .int x2), (3, .int x9_), (4, .int x14_4), (5, .int x14_5)]) dX8_tell_125 rfl (by rw [e39]) (by decide) rfl ?_
                  try have t39 : x39_.toInt = x14_6.toInt + (1) := by rw [e39]; exact (ti_add (b := Int32.ofInt (1)) (by show _ ≤ _ + (1 : Int); omega) (by show _ + (1 : Int) ≤ _; omega))
                  refine r_goto hC (tgt := 60) dX8_tell_128 (by decide) ?_
                  refine r_sub [1, 2, 3, 4, 5, 6, 0] rfl ?_
                  exact ih14 ((6 - x39_.toInt).toNat) (by omega) x39_ x14_5 x14_4 I37 hs37 hF37 (by omega) (by omega) rfl
                · refine r_iload hC dX8_tell_91 4 rfl ?_
                  refine r_aload_n hC dX8_tell_93 0 rfl ?_
                  refine r_getr hC 2 (ci := 8) rfl u8_in (by decide) mT_2_80 dX8_tell_94 ka0 rfl rfl hb15 ?_
                  obtain ⟨a40_, hb40, hk40, hn40⟩ := hs37.row hk15 7 45 6 (by decide) (by decide)
                  refine r_getr hC 7 (ci := 1) rfl u1_in (by decide) mT_1_205 dX8_tell_97 hk15 rfl rfl hb40 ?_
                  refine r_iload hC dX8_tell_100 6 rfl ?_
                  obtain ⟨a41_, hb41, hk41⟩ := hs37.sto hk40 (i := x14_6) (by omega) (by omega)
                  refine x_aaload (C := "HillTap$Story") hC hk40 hn40 (by decide) rfl (by decide) dX8_tell_102 (by omega) (by omega) hb41 ?_
                  refine r_geti hC 0 (ci := 4) rfl u4_in (by decide) mT_1_161 dX8_tell_103 hk41 rfl rfl (fun x42_ e42 => ?_)
                  refine r_iadd hC dX8_tell_106 (fun x43_ e43 => ?_)
                  try have t43 : x43_.toInt = x14_4.toInt + x42_.toInt := by rw [e43]; exact ti_add (by omega) (by omega)
                  refine r_istore hC (lv' := [(4, .int x43_), (0, .ref a0), (1, .int x1), (2, .int x2), (3, .int x9_), (5, .int x14_5), (6, .int x14_6)]) dX8_tell_107 (by decide) rfl ?_
                  refine r_iload hC dX8_tell_109 5 rfl ?_
                  refine r_aload_n hC dX8_tell_111 1 rfl ?_
                  refine r_iload hC dX8_tell_112 6 rfl ?_
                  refine r_callV hC (As := [.int x14_6]) (rest := [.int x14_5]) (ci := 8) (c_X8_courseOf g (xL X) K len I37 J R hs37 a0 ka0 x14_6 (by omega) (by omega)) mT_3_163 mT_1_1 mT_3_160 mT_3_162 mP_26 okX8_courseOf ⟨by decide, by decide⟩ rfl (by show kO (K a0) = _; rw [ka0]; rfl) rfl rfl (Nat.le_of_ble_eq_true rfl) ⟨by decide, by decide⟩ dX8_tell_114 (aR1 (F := fun st M => P g X 7 117 [(4, .int x43_), (0, .ref a0), (1, .int x1), (2, .int x2), (3, .int x9_), (5, .int x14_5), (6, .int x14_6)] st _ _ M) (M := (K, len, I37, J, R)) fun a44_ I44 h44 => ?_)
                  obtain ⟨hs44, hf44, k44_0⟩ := h44
                  show P g X 7 117 [(4, .int x43_), (0, .ref a0), (1, .int x1), (2, .int x2), (3, .int x9_), (5, .int x14_5), (6, .int x14_6)] [.ref a44_, .int x14_5] _ _ (K, len, I44, J, R)
                  have hF44 : Fr K [(1, 5), (1, 6), (9, 12), (43, 999), (50, 999), (51, 999), (52, 999), (53, 999), (54, 999), (67, 999)] I I44 := hF37.trans hf44 rfl rfl
                  refine r_geti hC 5 (ci := 0) rfl u0_in (by decide) mT_2_36 dX8_tell_117 k44_0 rfl rfl (fun x45_ e45 => ?_)
                  refine r_mmin hC mT_4_133 mT_2_154 mT_1_12 mT_2_155 (by decide) (Nat.le_of_ble_eq_true rfl) (Nat.zero_le _) (Nat.zero_le _) dX8_tell_120 (fun x46_ e46 t46a t46b t46c => ?_)
                  refine r_istore hC (lv' := [(5, .int x46_), (4, .int x43_), (0, .ref a0), (1, .int x1), (2, .int x2), (3, .int x9_), (6, .int x14_6)]) dX8_tell_123 (by decide) rfl ?_
                  obtain ⟨x47_, e47⟩ : ∃ z : Int32, z = x14_6 + Int32.ofInt (1) := ⟨_, rfl⟩
                  refine r_iinc hC (j := 6) (v := x47_) (lv' := [(6, .int x47_), (5, .int x46_), (4, .int x43_), (0, .ref a0), (1, .int x1), (2, .int x2), (3, .int x9_)]) dX8_tell_125 rfl (by rw [e47]) (by decide) rfl ?_
                  try have t47 : x47_.toInt = x14_6.toInt + (1) := by rw [e47]; exact (ti_add (b := Int32.ofInt (1)) (by show _ ≤ _ + (1 : Int); omega) (by show _ + (1 : Int) ≤ _; omega))
                  refine r_goto hC (tgt := 60) dX8_tell_128 (by decide) ?_
                  refine r_sub [3, 4, 5, 6, 2, 1, 0] rfl ?_
                  exact ih14 ((6 - x47_.toInt).toNat) (by omega) x47_ x46_ x43_ I44 hs44 hF44 (by omega) (by omega) rfl
          refine r_sub [4, 5, 6, 3, 2, 1, 0] rfl ?_
          exact LP14 _ x13_ x12_ x11_ I8 hs8 hF8 (by omega) (by omega) rfl
        · refine r_aload_n hC dX8_tell_43 1 rfl ?_
          refine r_bipush hC (v := (6)) dX8_tell_44 (by decide) (by decide) (fun x48_ e48 t48 => ?_)
          refine r_callV hC (As := [.int x48_]) (rest := []) (ci := 8) (c_X8_refuse g (xL X) K len I8 J R hs8 a0 ka0 x48_) mT_2_133 mT_1_1 mT_2_130 mT_2_132 mP_0 okX8_refuse ⟨by decide, by decide⟩ rfl (by show kO (K a0) = _; rw [ka0]; rfl) rfl rfl (Nat.le_of_ble_eq_true rfl) ⟨by decide, by decide⟩ dX8_tell_46 (aI1 (F := fun st M => P g X 7 49 [(3, .int x9_), (0, .ref a0), (1, .int x1), (2, .int x2)] st _ _ M) (M := (K, len, I8, J, R)) fun x49_ I49 h49 => ?_)
          obtain ⟨hs49, hf49, k49_0, k49_1⟩ := h49
          show P g X 7 49 [(3, .int x9_), (0, .ref a0), (1, .int x1), (2, .int x2)] [.int x49_] _ _ (K, len, I49, J, R)
          have hF49 : Fr K [(1, 5), (1, 6), (9, 12), (43, 999), (50, 999), (51, 999), (52, 999), (53, 999), (54, 999), (67, 999)] I I49 := hF8.trans hf49 rfl rfl
          exact r_iret hC hQ hlk hr rfl (by decide) (by decide) dX8_tell_49 ⟨_, _, rfl, rfl, ⟨hs49, hF49, (by omega)⟩⟩
      · refine r_aload_n hC dX8_tell_24 0 rfl ?_
        refine r_iconst hC (v := (2)) dX8_tell_25 (by decide) (by decide) (fun x50_ e50 t50 => ?_)
        refine r_callV hC (As := [.int x50_]) (rest := []) (ci := 8) (c_X8_refuse g (xL X) K len I J R hs a0 ka0 x50_) mT_2_133 mT_1_1 mT_2_130 mT_2_132 mP_0 okX8_refuse ⟨by decide, by decide⟩ rfl (by show kO (K a0) = _; rw [ka0]; rfl) rfl rfl (Nat.le_of_ble_eq_true rfl) ⟨by decide, by decide⟩ dX8_tell_26 (aI1 (F := fun st M => P g X 7 29 [(0, .ref a0), (1, .int x1), (2, .int x2)] st _ _ M) (M := (K, len, I, J, R)) fun x51_ I51 h51 => ?_)
        obtain ⟨hs51, hf51, k51_0, k51_1⟩ := h51
        show P g X 7 29 [(0, .ref a0), (1, .int x1), (2, .int x2)] [.int x51_] _ _ (K, len, I51, J, R)
        have hF51 : Fr K [(1, 5), (1, 6), (9, 12), (43, 999), (50, 999), (51, 999), (52, 999), (53, 999), (54, 999), (67, 999)] I I51 := hF.trans hf51 rfl rfl
        exact r_iret hC hQ hlk hr rfl (by decide) (by decide) dX8_tell_29 ⟨_, _, rfl, rfl, ⟨hs51, hF51, (by omega)⟩⟩
  · refine r_aload_n hC dX8_tell_8 0 rfl ?_
    refine r_iconst hC (v := (1)) dX8_tell_9 (by decide) (by decide) (fun x52_ e52 t52 => ?_)
    refine r_callV hC (As := [.int x52_]) (rest := []) (ci := 8) (c_X8_refuse g (xL X) K len I J R hs a0 ka0 x52_) mT_2_133 mT_1_1 mT_2_130 mT_2_132 mP_0 okX8_refuse ⟨by decide, by decide⟩ rfl (by show kO (K a0) = _; rw [ka0]; rfl) rfl rfl (Nat.le_of_ble_eq_true rfl) ⟨by decide, by decide⟩ dX8_tell_10 (aI1 (F := fun st M => P g X 7 13 [(0, .ref a0), (1, .int x1), (2, .int x2)] st _ _ M) (M := (K, len, I, J, R)) fun x53_ I53 h53 => ?_)
    obtain ⟨hs53, hf53, k53_0, k53_1⟩ := h53
    show P g X 7 13 [(0, .ref a0), (1, .int x1), (2, .int x2)] [.int x53_] _ _ (K, len, I53, J, R)
    have hF53 : Fr K [(1, 5), (1, 6), (9, 12), (43, 999), (50, 999), (51, 999), (52, 999), (53, 999), (54, 999), (67, 999)] I I53 := hF.trans hf53 rfl rfl
    exact r_iret hC hQ hlk hr rfl (by decide) (by decide) dX8_tell_13 ⟨_, _, rfl, rfl, ⟨hs53, hF53, (by omega)⟩⟩
set_option maxHeartbeats 4000000 in
set_option maxRecDepth 100000 in
theorem c_X8_part (g : GG) (l : Launch) (K len : Nat → Nat) (I : Nat → Nat → Int32) (J : Nat → Nat → Int64) (R : Nat → Nat → Option Nat) (hs : Sf K len I R) (a0 : Nat) (ka0 : K a0 = 9) (x1 : Int32) (x2 : Int32) (x3 : Int32) : Ct g l yX8_part cX8_part 5 (Option.some Jvm.ClassFile.FieldType.int) rmX8_part [.ref a0, .int x1, .int x2, .int x3] (K, len, I, J, R) (pI1 (K, len, I, J, R) (fun r I' => Sf K len I' R ∧ Fr K [(1, 5), (1, 6), (9, 12), (43, 999), (50, 999), (51, 999), (52, 999), (53, 999), (54, 999)] I I' ∧ ((I' a0 12).toInt ≠ 4))) := by
  refine Ct_intro (by decide +kernel) (Nat.le_of_ble_eq_true rfl) (fun X hC hL hKK hNm hr hlk hQ => ?_)
  subst hL
  have hC : Cx g X cX8_part "HillTap" 5 rmX8_part := hC
  show P g X 5 0 [(0, .ref a0), (1, .int x1), (2, .int x2), (3, .int x3)] [] 0 0 (K, len, I, J, R)
  have hF : Fr K [(1, 5), (1, 6), (9, 12), (43, 999), (50, 999), (51, 999), (52, 999), (53, 999), (54, 999)] I I := Fr.refl
  have b_x1 := ti_rng x1
  have b_x2 := ti_rng x2
  have b_x3 := ti_rng x3
  refine r_aload_n hC dX8_part_0 0 rfl ?_
  refine r_iload_n hC dX8_part_1 1 rfl ?_
  refine r_iload_n hC dX8_part_2 2 rfl ?_
  refine r_iload_n hC dX8_part_3 3 rfl ?_
  refine r_callV hC (As := [.int x1, .int x2, .int x3]) (rest := []) (ci := 8) (c_X8_isPegDay g (xL X) K len I J R hs a0 ka0 x1 x2 x3) mT_3_151 mT_1_1 mT_3_148 mT_3_150 mP_23 okX8_isPegDay ⟨by decide, by decide⟩ rfl (by show kO (K a0) = _; rw [ka0]; rfl) rfl rfl (Nat.le_of_ble_eq_true rfl) ⟨by decide, by decide⟩ dX8_part_4 (aI0 (F := fun st M => P g X 5 7 [(0, .ref a0), (1, .int x1), (2, .int x2), (3, .int x3)] st _ _ M) (M := (K, len, I, J, R)) fun x1_ h1 => ?_)
  obtain ⟨k1_0, k1_1, k1_2⟩ := h1
  show P g X 5 7 [(0, .ref a0), (1, .int x1), (2, .int x2), (3, .int x3)] [.int x1_] _ _ (K, len, I, J, R)
  refine r_if_ne hC (tgt := 16) dX8_part_7 (by decide) (fun c2 => ?_) (fun c2 => ?_)
  · refine r_aload_n hC dX8_part_16 0 rfl ?_
    obtain ⟨a3_, hb3, hk3⟩ := hs.obj ka0 2 2 (by decide)
    refine r_getr hC 2 (ci := 8) rfl u8_in (by decide) mT_2_80 dX8_part_17 ka0 rfl rfl hb3 ?_
    obtain ⟨a4_, hb4, hk4, hn4⟩ := hs.row hk3 7 45 6 (by decide) (by decide)
    refine r_getr hC 7 (ci := 1) rfl u1_in (by decide) mT_1_205 dX8_part_20 hk3 rfl rfl hb4 ?_
    refine r_iload_n hC dX8_part_23 1 rfl ?_
    obtain ⟨a5_, hb5, hk5⟩ := hs.sto hk4 (i := x1) (by omega) (by omega)
    refine x_aaload (C := "HillTap$Story") hC hk4 hn4 (by decide) rfl (by decide) dX8_part_24 (by omega) (by omega) hb5 ?_
    refine r_geti hC 1 (ci := 4) rfl u4_in (by decide) mT_1_165 dX8_part_25 hk5 rfl rfl (fun x6_ e6 => ?_)
    refine r_iconst hC (v := (5)) dX8_part_28 (by decide) (by decide) (fun x7_ e7 t7 => ?_)
    refine r_icmp_eq hC (tgt := 38) dX8_part_29 (by decide) (fun c8 => ?_) (fun c8 => ?_)
    · refine r_aload_n hC dX8_part_38 0 rfl ?_
      obtain ⟨a9_, hb9, hk9⟩ := hs.obj ka0 8 1 (by decide)
      refine r_getr hC 8 (ci := 8) rfl u8_in (by decide) mT_2_86 dX8_part_39 ka0 rfl rfl hb9 ?_
      refine r_aload_n hC dX8_part_42 0 rfl ?_
      refine r_getr hC 2 (ci := 8) rfl u8_in (by decide) mT_2_80 dX8_part_43 ka0 rfl rfl hb3 ?_
      refine r_aload_n hC dX8_part_46 0 rfl ?_
      refine r_getr hC 2 (ci := 8) rfl u8_in (by decide) mT_2_80 dX8_part_47 ka0 rfl rfl hb3 ?_
      refine r_getr hC 7 (ci := 1) rfl u1_in (by decide) mT_1_205 dX8_part_50 hk3 rfl rfl hb4 ?_
      refine r_iload_n hC dX8_part_53 1 rfl ?_
      obtain ⟨a10_, hb10, hk10⟩ := hs.sto hk4 (i := x1) (by omega) (by omega)
      refine x_aaload (C := "HillTap$Story") hC hk4 hn4 (by decide) rfl (by decide) dX8_part_54 (by omega) (by omega) hb10 ?_
      refine r_aload_n hC dX8_part_55 0 rfl ?_
      obtain ⟨a11_, hb11, hk11, hn11⟩ := hs.row ka0 4 41 60 (by decide) (by decide)
      refine r_getr hC 4 (ci := 8) rfl u8_in (by decide) mT_2_82 dX8_part_56 ka0 rfl rfl hb11 ?_
      refine r_iconst hC (v := (0)) dX8_part_59 (by decide) (by decide) (fun x12_ e12 t12 => ?_)
      refine r_callV hC (As := [.ref a3_, .ref a10_, .ref a11_, .int x12_]) (rest := []) (ci := 0) (c_X0_follow g (xL X) K len I J R hs a9_ hk9 a3_ hk3 a10_ hk10 a11_ hk11 hn11 x12_) mT_3_167 mT_1_8 mT_3_164 mT_3_165 mT_3_166 okX0_follow ⟨by decide, by decide⟩ rfl (by show kO (K a9_) = _; rw [hk9]; rfl) rfl rfl (Nat.le_of_ble_eq_true rfl) ⟨by decide, by decide⟩ dX8_part_60 (aV1 (F := fun st M => P g X 5 63 [(0, .ref a0), (1, .int x1), (2, .int x2), (3, .int x3)] st _ _ M) (M := (K, len, I, J, R)) fun I13 h13 => ?_)
      obtain ⟨hs13, hf13⟩ := h13
      show P g X 5 63 [(0, .ref a0), (1, .int x1), (2, .int x2), (3, .int x3)] [] _ _ (K, len, I13, J, R)
      have hF13 : Fr K [(1, 5), (1, 6), (9, 12), (43, 999), (50, 999), (51, 999), (52, 999), (53, 999), (54, 999)] I I13 := hF.trans hf13 rfl rfl
      refine r_iload_n hC dX8_part_63 2 rfl ?_
      refine r_iload_n hC dX8_part_64 3 rfl ?_
      refine r_callS hC (As := [.int x2, .int x3]) (rest := []) (c_X8_row g (xL X) K len I13 J R hs13 x2 x3 (by omega) (by omega) (by omega) (by omega)) mT_3_192 mT_1_1 mT_3_197 mT_3_191 okX8_row ⟨by decide, by decide⟩ rfl rfl (Nat.le_of_ble_eq_true rfl) ⟨by decide, by decide⟩ dX8_part_65 (aI0 (F := fun st M => P g X 5 68 [(0, .ref a0), (1, .int x1), (2, .int x2), (3, .int x3)] st _ _ M) (M := (K, len, I13, J, R)) fun x14_ h14 => ?_)
      have k14_0 := h14
      show P g X 5 68 [(0, .ref a0), (1, .int x1), (2, .int x2), (3, .int x3)] [.int x14_] _ _ (K, len, I13, J, R)
      refine r_istore hC (lv' := [(4, .int x14_), (0, .ref a0), (1, .int x1), (2, .int x2), (3, .int x3)]) dX8_part_68 (by decide) rfl ?_
      refine r_aload_n hC dX8_part_70 1 rfl ?_
      refine r_aload_n hC dX8_part_71 1 rfl ?_
      refine r_iload_n hC dX8_part_72 2 rfl ?_
      refine r_callV hC (As := [.int x1]) (rest := [.ref a0]) (ci := 8) (c_X8_courseOf g (xL X) K len I13 J R hs13 a0 ka0 x1 (by omega) (by omega)) mT_3_163 mT_1_1 mT_3_160 mT_3_162 mP_26 okX8_courseOf ⟨by decide, by decide⟩ rfl (by show kO (K a0) = _; rw [ka0]; rfl) rfl rfl (Nat.le_of_ble_eq_true rfl) ⟨by decide, by decide⟩ dX8_part_73 (aR1 (F := fun st M => P g X 5 76 [(4, .int x14_), (0, .ref a0), (1, .int x1), (2, .int x2), (3, .int x3)] st _ _ M) (M := (K, len, I13, J, R)) fun a15_ I15 h15 => ?_)
      obtain ⟨hs15, hf15, k15_0⟩ := h15
      show P g X 5 76 [(4, .int x14_), (0, .ref a0), (1, .int x1), (2, .int x2), (3, .int x3)] [.ref a15_, .ref a0] _ _ (K, len, I15, J, R)
      have hF15 : Fr K [(1, 5), (1, 6), (9, 12), (43, 999), (50, 999), (51, 999), (52, 999), (53, 999), (54, 999)] I I15 := hF13.trans hf15 rfl rfl
      obtain ⟨a16_, hb16, hk16, hn16⟩ := hs15.row k15_0 1 51 300 (by decide) (by decide)
      refine r_getr hC 1 (ci := 0) rfl u0_in (by decide) mT_2_29 dX8_part_76 k15_0 rfl rfl hb16 ?_
      refine r_iload hC dX8_part_79 0 rfl ?_
      refine x_iaload hC hk16 hn16 (by decide) rfl rfl dX8_part_81 (by omega) (by omega) (fun x17_ e17 => ?_)
      refine r_aload_n hC dX8_part_82 1 rfl ?_
      refine r_getr hC 8 (ci := 8) rfl u8_in (by decide) mT_2_86 dX8_part_83 ka0 rfl rfl hb9 ?_
      obtain ⟨a18_, hb18, hk18, hn18⟩ := hs15.row hk9 1 51 300 (by decide) (by decide)
      refine r_getr hC 1 (ci := 0) rfl u0_in (by decide) mT_2_29 dX8_part_86 hk9 rfl rfl hb18 ?_
      refine r_iload hC dX8_part_89 0 rfl ?_
      refine x_iaload hC hk18 hn18 (by decide) rfl rfl dX8_part_91 (by omega) (by omega) (fun x19_ e19 => ?_)
      refine r_isub hC dX8_part_92 (fun x20_ e20 => ?_)
      try have t20 : x20_.toInt = x17_.toInt - x19_.toInt := by rw [e20]; exact ti_sub (by omega) (by omega)
      refine r_callV hC (As := [.int x20_]) (rest := []) (ci := 8) (c_X8_answer g (xL X) K len I15 J R hs15 a0 ka0 x20_) mT_3_115 mT_1_1 mT_3_112 mT_3_114 mP_21 okX8_answer ⟨by decide, by decide⟩ rfl (by show kO (K a0) = _; rw [ka0]; rfl) rfl rfl (Nat.le_of_ble_eq_true rfl) ⟨by decide, by decide⟩ dX8_part_93 (aI1 (F := fun st M => P g X 5 96 [(4, .int x14_), (0, .ref a0), (1, .int x1), (2, .int x2), (3, .int x3)] st _ _ M) (M := (K, len, I15, J, R)) fun x21_ I21 h21 => ?_)
      obtain ⟨hs21, hf21, k21_0, k21_1⟩ := h21
      show P g X 5 96 [(4, .int x14_), (0, .ref a0), (1, .int x1), (2, .int x2), (3, .int x3)] [.int x21_] _ _ (K, len, I21, J, R)
      have hF21 : Fr K [(1, 5), (1, 6), (9, 12), (43, 999), (50, 999), (51, 999), (52, 999), (53, 999), (54, 999)] I I21 := hF15.trans hf21 rfl rfl
      exact r_iret hC hQ hlk hr rfl (by decide) (by decide) dX8_part_96 ⟨_, _, rfl, rfl, ⟨hs21, hF21, (by omega)⟩⟩
    · refine r_aload_n hC dX8_part_32 0 rfl ?_
      refine r_iconst hC (v := (0)) dX8_part_33 (by decide) (by decide) (fun x22_ e22 t22 => ?_)
      refine r_callV hC (As := [.int x22_]) (rest := []) (ci := 8) (c_X8_answer g (xL X) K len I J R hs a0 ka0 x22_) mT_3_115 mT_1_1 mT_3_112 mT_3_114 mP_21 okX8_answer ⟨by decide, by decide⟩ rfl (by show kO (K a0) = _; rw [ka0]; rfl) rfl rfl (Nat.le_of_ble_eq_true rfl) ⟨by decide, by decide⟩ dX8_part_34 (aI1 (F := fun st M => P g X 5 37 [(0, .ref a0), (1, .int x1), (2, .int x2), (3, .int x3)] st _ _ M) (M := (K, len, I, J, R)) fun x23_ I23 h23 => ?_)
      obtain ⟨hs23, hf23, k23_0, k23_1⟩ := h23
      show P g X 5 37 [(0, .ref a0), (1, .int x1), (2, .int x2), (3, .int x3)] [.int x23_] _ _ (K, len, I23, J, R)
      have hF23 : Fr K [(1, 5), (1, 6), (9, 12), (43, 999), (50, 999), (51, 999), (52, 999), (53, 999), (54, 999)] I I23 := hF.trans hf23 rfl rfl
      exact r_iret hC hQ hlk hr rfl (by decide) (by decide) dX8_part_37 ⟨_, _, rfl, rfl, ⟨hs23, hF23, (by omega)⟩⟩
  · refine r_aload_n hC dX8_part_10 0 rfl ?_
    refine r_iconst hC (v := (1)) dX8_part_11 (by decide) (by decide) (fun x24_ e24 t24 => ?_)
    refine r_callV hC (As := [.int x24_]) (rest := []) (ci := 8) (c_X8_refuse g (xL X) K len I J R hs a0 ka0 x24_) mT_2_133 mT_1_1 mT_2_130 mT_2_132 mP_0 okX8_refuse ⟨by decide, by decide⟩ rfl (by show kO (K a0) = _; rw [ka0]; rfl) rfl rfl (Nat.le_of_ble_eq_true rfl) ⟨by decide, by decide⟩ dX8_part_12 (aI1 (F := fun st M => P g X 5 15 [(0, .ref a0), (1, .int x1), (2, .int x2), (3, .int x3)] st _ _ M) (M := (K, len, I, J, R)) fun x25_ I25 h25 => ?_)
    obtain ⟨hs25, hf25, k25_0, k25_1⟩ := h25
    show P g X 5 15 [(0, .ref a0), (1, .int x1), (2, .int x2), (3, .int x3)] [.int x25_] _ _ (K, len, I25, J, R)
    have hF25 : Fr K [(1, 5), (1, 6), (9, 12), (43, 999), (50, 999), (51, 999), (52, 999), (53, 999), (54, 999)] I I25 := hF.trans hf25 rfl rfl
    exact r_iret hC hQ hlk hr rfl (by decide) (by decide) dX8_part_15 ⟨_, _, rfl, rfl, ⟨hs25, hF25, (by omega)⟩⟩
set_option maxHeartbeats 4000000 in
set_option maxRecDepth 100000 in
theorem c_X8_knew (g : GG) (l : Launch) (K len : Nat → Nat) (I : Nat → Nat → Int32) (J : Nat → Nat → Int64) (R : Nat → Nat → Option Nat) (hs : Sf K len I R) (a0 : Nat) (ka0 : K a0 = 9) (x1 : Int32) : Ct g l yX8_knew cX8_knew 2 (Option.some Jvm.ClassFile.FieldType.int) rmX8_knew [.ref a0, .int x1] (K, len, I, J, R) (pI1 (K, len, I, J, R) (fun r I' => Sf K len I' R ∧ Fr K [(9, 12)] I I' ∧ ((I' a0 12).toInt ≠ 4))) := by
  refine Ct_intro (by decide +kernel) (Nat.le_of_ble_eq_true rfl) (fun X hC hL hKK hNm hr hlk hQ => ?_)
  subst hL
  have hC : Cx g X cX8_knew "HillTap" 2 rmX8_knew := hC
  show P g X 2 0 [(0, .ref a0), (1, .int x1)] [] 0 0 (K, len, I, J, R)
  have hF : Fr K [(9, 12)] I I := Fr.refl
  have b_x1 := ti_rng x1
  refine r_iload_n hC dX8_knew_0 1 rfl ?_
  refine r_if_lt hC (tgt := 15) dX8_knew_1 (by decide) (fun c1 => ?_) (fun c1 => ?_)
  · refine r_aload_n hC dX8_knew_15 0 rfl ?_
    refine r_iconst hC (v := (1)) dX8_knew_16 (by decide) (by decide) (fun x2_ e2 t2 => ?_)
    refine r_callV hC (As := [.int x2_]) (rest := []) (ci := 8) (c_X8_refuse g (xL X) K len I J R hs a0 ka0 x2_) mT_2_133 mT_1_1 mT_2_130 mT_2_132 mP_0 okX8_refuse ⟨by decide, by decide⟩ rfl (by show kO (K a0) = _; rw [ka0]; rfl) rfl rfl (Nat.le_of_ble_eq_true rfl) ⟨by decide, by decide⟩ dX8_knew_17 (aI1 (F := fun st M => P g X 2 20 [(0, .ref a0), (1, .int x1)] st _ _ M) (M := (K, len, I, J, R)) fun x3_ I3 h3 => ?_)
    obtain ⟨hs3, hf3, k3_0, k3_1⟩ := h3
    show P g X 2 20 [(0, .ref a0), (1, .int x1)] [.int x3_] _ _ (K, len, I3, J, R)
    have hF3 : Fr K [(9, 12)] I I3 := hF.trans hf3 rfl rfl
    exact r_iret hC hQ hlk hr rfl (by decide) (by decide) dX8_knew_20 ⟨_, _, rfl, rfl, ⟨hs3, hF3, (by omega)⟩⟩
  · refine r_iload_n hC dX8_knew_4 1 rfl ?_
    refine r_aload_n hC dX8_knew_5 0 rfl ?_
    obtain ⟨a4_, hb4, hk4⟩ := hs.obj ka0 2 2 (by decide)
    refine r_getr hC 2 (ci := 8) rfl u8_in (by decide) mT_2_80 dX8_knew_6 ka0 rfl rfl hb4 ?_
    refine r_geti hC 12 (ci := 1) rfl u1_in (by decide) mT_1_220 dX8_knew_9 hk4 rfl rfl (fun x5_ e5 => ?_)
    have r5 := hs.rng hk4 rfl e5
    refine r_icmp_lt hC (tgt := 21) dX8_knew_12 (by decide) (fun c6 => ?_) (fun c6 => ?_)
    · refine r_aload_n hC dX8_knew_21 0 rfl ?_
      refine r_aload_n hC dX8_knew_22 0 rfl ?_
      obtain ⟨a7_, hb7, hk7⟩ := hs.obj ka0 9 4 (by decide)
      refine r_getr hC 9 (ci := 8) rfl u8_in (by decide) mT_2_87 dX8_knew_23 ka0 rfl rfl hb7 ?_
      refine r_aload_n hC dX8_knew_26 0 rfl ?_
      refine r_getr hC 2 (ci := 8) rfl u8_in (by decide) mT_2_80 dX8_knew_27 ka0 rfl rfl hb4 ?_
      obtain ⟨a8_, hb8, hk8, hn8⟩ := hs.row hk4 13 61 4 (by decide) (by decide)
      refine r_getr hC 13 (ci := 1) rfl u1_in (by decide) mT_1_223 dX8_knew_30 hk4 rfl rfl hb8 ?_
      refine r_iload_n hC dX8_knew_33 1 rfl ?_
      refine x_iaload hC hk8 hn8 (by decide) rfl rfl dX8_knew_34 (by omega) (by omega) (fun x9_ e9 => ?_)
      refine r_aload_n hC dX8_knew_35 0 rfl ?_
      refine r_getr hC 2 (ci := 8) rfl u8_in (by decide) mT_2_80 dX8_knew_36 ka0 rfl rfl hb4 ?_
      obtain ⟨a10_, hb10, hk10, hn10⟩ := hs.row hk4 14 62 4 (by decide) (by decide)
      refine r_getr hC 14 (ci := 1) rfl u1_in (by decide) mT_1_226 dX8_knew_39 hk4 rfl rfl hb10 ?_
      refine r_iload_n hC dX8_knew_42 1 rfl ?_
      refine x_iaload hC hk10 hn10 (by decide) rfl rfl dX8_knew_43 (by omega) (by omega) (fun x11_ e11 => ?_)
      refine r_callV hC (As := [.int x9_, .int x11_]) (rest := [.ref a0]) (ci := 3) (c_X3_firstDayOf g (xL X) K len I J R hs a7_ hk7 x9_ x11_) mT_4_145 mT_1_9 mT_4_142 mT_4_143 mT_4_144 okX3_firstDayOf ⟨by decide, by decide⟩ rfl (by show kO (K a7_) = _; rw [hk7]; rfl) rfl rfl (Nat.le_of_ble_eq_true rfl) ⟨by decide, by decide⟩ dX8_knew_44 (aI0 (F := fun st M => P g X 2 47 [(0, .ref a0), (1, .int x1)] st _ _ M) (M := (K, len, I, J, R)) fun x12_ h12 => ?_)
      skip
      show P g X 2 47 [(0, .ref a0), (1, .int x1)] [.int x12_, .ref a0] _ _ (K, len, I, J, R)
      refine r_callV hC (As := [.int x12_]) (rest := []) (ci := 8) (c_X8_answer g (xL X) K len I J R hs a0 ka0 x12_) mT_3_115 mT_1_1 mT_3_112 mT_3_114 mP_21 okX8_answer ⟨by decide, by decide⟩ rfl (by show kO (K a0) = _; rw [ka0]; rfl) rfl rfl (Nat.le_of_ble_eq_true rfl) ⟨by decide, by decide⟩ dX8_knew_47 (aI1 (F := fun st M => P g X 2 50 [(0, .ref a0), (1, .int x1)] st _ _ M) (M := (K, len, I, J, R)) fun x13_ I13 h13 => ?_)
      obtain ⟨hs13, hf13, k13_0, k13_1⟩ := h13
      show P g X 2 50 [(0, .ref a0), (1, .int x1)] [.int x13_] _ _ (K, len, I13, J, R)
      have hF13 : Fr K [(9, 12)] I I13 := hF.trans hf13 rfl rfl
      exact r_iret hC hQ hlk hr rfl (by decide) (by decide) dX8_knew_50 ⟨_, _, rfl, rfl, ⟨hs13, hF13, (by omega)⟩⟩
    · refine r_aload_n hC dX8_knew_15 0 rfl ?_
      refine r_iconst hC (v := (1)) dX8_knew_16 (by decide) (by decide) (fun x14_ e14 t14 => ?_)
      refine r_callV hC (As := [.int x14_]) (rest := []) (ci := 8) (c_X8_refuse g (xL X) K len I J R hs a0 ka0 x14_) mT_2_133 mT_1_1 mT_2_130 mT_2_132 mP_0 okX8_refuse ⟨by decide, by decide⟩ rfl (by show kO (K a0) = _; rw [ka0]; rfl) rfl rfl (Nat.le_of_ble_eq_true rfl) ⟨by decide, by decide⟩ dX8_knew_17 (aI1 (F := fun st M => P g X 2 20 [(0, .ref a0), (1, .int x1)] st _ _ M) (M := (K, len, I, J, R)) fun x15_ I15 h15 => ?_)
      obtain ⟨hs15, hf15, k15_0, k15_1⟩ := h15
      show P g X 2 20 [(0, .ref a0), (1, .int x1)] [.int x15_] _ _ (K, len, I15, J, R)
      have hF15 : Fr K [(9, 12)] I I15 := hF.trans hf15 rfl rfl
      exact r_iret hC hQ hlk hr rfl (by decide) (by decide) dX8_knew_20 ⟨_, _, rfl, rfl, ⟨hs15, hF15, (by omega)⟩⟩
set_option maxHeartbeats 4000000 in
set_option maxRecDepth 100000 in
theorem c_X8_trouble (g : GG) (l : Launch) (K len : Nat → Nat) (I : Nat → Nat → Int32) (J : Nat → Nat → Int64) (R : Nat → Nat → Option Nat) (hs : Sf K len I R) (a0 : Nat) (ka0 : K a0 = 9) : Ct g l yX8_trouble cX8_trouble 1 (Option.some Jvm.ClassFile.FieldType.int) rmX8_trouble [.ref a0] (K, len, I, J, R) (pI0 (K, len, I, J, R) (fun r => True)) := by
  refine Ct_intro (by decide +kernel) (Nat.le_of_ble_eq_true rfl) (fun X hC hL hKK hNm hr hlk hQ => ?_)
  subst hL
  have hC : Cx g X cX8_trouble "HillTap" 1 rmX8_trouble := hC
  show P g X 1 0 [(0, .ref a0)] [] 0 0 (K, len, I, J, R)
  have hF : Fr K [] I I := Fr.refl
  refine r_aload_n hC dX8_trouble_0 0 rfl ?_
  refine r_geti hC 12 (ci := 8) rfl u8_in (by decide) mT_2_90 dX8_trouble_1 ka0 rfl rfl (fun x1_ e1 => ?_)
  exact r_iret hC hQ hlk hr rfl (by decide) (by decide) dX8_trouble_4 ⟨_, rfl, rfl, trivial⟩

