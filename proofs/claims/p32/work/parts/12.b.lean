abbrev rmX2_goalOf : Room := { frames := 1, cells := 0, slots := 0, locals := 21 }
abbrev rmX2_towards : Room := { frames := 1, cells := 0, slots := 0, locals := 21 }
abbrev rmX2_fillByPlan : Room := { frames := 2, cells := 0, slots := 0, locals := 45 }
abbrev rmX2_fillSteady : Room := { frames := 2, cells := 0, slots := 0, locals := 43 }
abbrev rmX4_findsAt : Room := { frames := 0, cells := 0, slots := 0, locals := 0 }
abbrev rmX5_add : Room := { frames := 0, cells := 0, slots := 0, locals := 0 }
set_option maxHeartbeats 4000000 in
set_option maxRecDepth 100000 in
theorem c_X4_findsAt (g : GG) (l : Launch) (K len : Nat → Nat) (I : Nat → Nat → Int32) (J : Nat → Nat → Int64) (R : Nat → Nat → Option Nat) (hs : Sf K len I R) (a0 : Nat) (ka0 : K a0 = 5) (x1 : Int32) : Ct g l yX4_findsAt cX4_findsAt 2 (Option.some Jvm.ClassFile.FieldType.int) rmX4_findsAt [.ref a0, .int x1] (K, len, I, J, R) (pI0 (K, len, I, J, R) (fun r => True)) := by
  refine Ct_intro (by decide +kernel) (Nat.le_of_ble_eq_true rfl) (fun X hC hL hKK hNm hr hlk hQ => ?_)
  subst hL
  have hC : Cx g X cX4_findsAt "HillTap$Story" 2 rmX4_findsAt := hC
  show P g X 2 0 [(0, .ref a0), (1, .int x1)] [] 0 0 (K, len, I, J, R)
  have hF : Fr K [] I I := Fr.refl
  have b_x1 := ti_rng x1
  refine r_aload_n hC dX4_findsAt_0 0 rfl ?_
  refine r_geti hC 1 (ci := 4) rfl u4_in (by decide) mT_1_162 dX4_findsAt_1 ka0 rfl rfl (fun x1_ e1 => ?_)
  by_cases o2 : x1_.toInt < 1 ∨ 5 < x1_.toInt
  · refine r_tabOut hC (tgt := 89) dX4_findsAt_4 o2 (by decide) ?_
    refine r_iconst hC (v := (0)) dX4_findsAt_89 (by decide) (by decide) (fun x3_ e3 t3 => ?_)
    exact r_iret hC hQ hlk hr rfl (by decide) (by decide) dX4_findsAt_90 ⟨_, rfl, rfl, trivial⟩
  · rcases (show x1_.toInt = 1 ∨ x1_.toInt = 2 ∨ x1_.toInt = 3 ∨ x1_.toInt = 4 ∨ x1_.toInt = 5 by omega) with o2 | o2 | o2 | o2 | o2
    · refine r_tabIn hC (tgt := 40) (off := 36) dX4_findsAt_4 (by omega) (by omega) (by rw [o2]; decide) (by decide) ?_
      refine r_iload_n hC dX4_findsAt_40 1 rfl ?_
      refine r_aload_n hC dX4_findsAt_41 0 rfl ?_
      refine r_geti hC 2 (ci := 4) rfl u4_in (by decide) mT_1_166 dX4_findsAt_42 ka0 rfl rfl (fun x4_ e4 => ?_)
      refine r_icmp_gt hC (tgt := 52) dX4_findsAt_45 (by decide) (fun c5 => ?_) (fun c5 => ?_)
      · refine r_iconst hC (v := (0)) dX4_findsAt_52 (by decide) (by decide) (fun x6_ e6 t6 => ?_)
        exact r_iret hC hQ hlk hr rfl (by decide) (by decide) dX4_findsAt_53 ⟨_, rfl, rfl, trivial⟩
      · refine r_iconst hC (v := (1)) dX4_findsAt_48 (by decide) (by decide) (fun x7_ e7 t7 => ?_)
        refine r_goto hC (tgt := 53) dX4_findsAt_49 (by decide) ?_
        exact r_iret hC hQ hlk hr rfl (by decide) (by decide) dX4_findsAt_53 ⟨_, rfl, rfl, trivial⟩
    · refine r_tabIn hC (tgt := 54) (off := 50) dX4_findsAt_4 (by omega) (by omega) (by rw [o2]; decide) (by decide) ?_
      refine r_aload_n hC dX4_findsAt_54 0 rfl ?_
      refine r_geti hC 2 (ci := 4) rfl u4_in (by decide) mT_1_166 dX4_findsAt_55 ka0 rfl rfl (fun x8_ e8 => ?_)
      refine r_iload_n hC dX4_findsAt_58 1 rfl ?_
      refine r_imul hC dX4_findsAt_59 (fun x9_ e9 => ?_)
      refine r_bipush hC (v := (10)) dX4_findsAt_60 (by decide) (by decide) (fun x10_ e10 t10 => ?_)
      refine r_idiv hC dX4_findsAt_62 (ne_0 (by omega)) (fun x11_ e11 => ?_)
      exact r_iret hC hQ hlk hr rfl (by decide) (by decide) dX4_findsAt_63 ⟨_, rfl, rfl, trivial⟩
    · refine r_tabIn hC (tgt := 64) (off := 60) dX4_findsAt_4 (by omega) (by omega) (by rw [o2]; decide) (by decide) ?_
      refine r_iload_n hC dX4_findsAt_64 1 rfl ?_
      refine r_aload_n hC dX4_findsAt_65 0 rfl ?_
      refine r_geti hC 2 (ci := 4) rfl u4_in (by decide) mT_1_166 dX4_findsAt_66 ka0 rfl rfl (fun x12_ e12 => ?_)
      refine r_icmp_ne hC (tgt := 76) dX4_findsAt_69 (by decide) (fun c13 => ?_) (fun c13 => ?_)
      · refine r_iconst hC (v := (0)) dX4_findsAt_76 (by decide) (by decide) (fun x14_ e14 t14 => ?_)
        exact r_iret hC hQ hlk hr rfl (by decide) (by decide) dX4_findsAt_77 ⟨_, rfl, rfl, trivial⟩
      · refine r_iconst hC (v := (2)) dX4_findsAt_72 (by decide) (by decide) (fun x15_ e15 t15 => ?_)
        refine r_goto hC (tgt := 77) dX4_findsAt_73 (by decide) ?_
        exact r_iret hC hQ hlk hr rfl (by decide) (by decide) dX4_findsAt_77 ⟨_, rfl, rfl, trivial⟩
    · refine r_tabIn hC (tgt := 89) (off := 85) dX4_findsAt_4 (by omega) (by omega) (by rw [o2]; decide) (by decide) ?_
      refine r_iconst hC (v := (0)) dX4_findsAt_89 (by decide) (by decide) (fun x16_ e16 t16 => ?_)
      exact r_iret hC hQ hlk hr rfl (by decide) (by decide) dX4_findsAt_90 ⟨_, rfl, rfl, trivial⟩
    · refine r_tabIn hC (tgt := 78) (off := 74) dX4_findsAt_4 (by omega) (by omega) (by rw [o2]; decide) (by decide) ?_
      refine r_iload_n hC dX4_findsAt_78 1 rfl ?_
      refine r_iconst hC (v := (5)) dX4_findsAt_79 (by decide) (by decide) (fun x17_ e17 t17 => ?_)
      refine r_icmp_gt hC (tgt := 87) dX4_findsAt_80 (by decide) (fun c18 => ?_) (fun c18 => ?_)
      · refine r_iconst hC (v := (0)) dX4_findsAt_87 (by decide) (by decide) (fun x19_ e19 t19 => ?_)
        exact r_iret hC hQ hlk hr rfl (by decide) (by decide) dX4_findsAt_88 ⟨_, rfl, rfl, trivial⟩
      · refine r_iconst hC (v := (1)) dX4_findsAt_83 (by decide) (by decide) (fun x20_ e20 t20 => ?_)
        refine r_goto hC (tgt := 88) dX4_findsAt_84 (by decide) ?_
        exact r_iret hC hQ hlk hr rfl (by decide) (by decide) dX4_findsAt_88 ⟨_, rfl, rfl, trivial⟩
