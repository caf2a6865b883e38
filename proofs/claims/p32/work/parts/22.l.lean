theorem cl_eq {i j : Int32} (h : i.toInt = j.toInt) : i.toNatClampNeg = j.toNatClampNeg := by rw [Int32.toInt_inj.mp h]
abbrev rmX9_find : Room := { frames := 0, cells := 0, slots := 0, locals := 0 }
abbrev rmX10_byteAt : Room := { frames := 0, cells := 0, slots := 0, locals := 0 }
abbrev rmX10_isLetter : Room := { frames := 0, cells := 0, slots := 0, locals := 0 }
abbrev rmX10_isDigit : Room := { frames := 0, cells := 0, slots := 0, locals := 0 }
abbrev rmX10_goesOn : Room := { frames := 1, cells := 0, slots := 0, locals := 21 }
abbrev rmX10_wrong : Room := { frames := 0, cells := 0, slots := 0, locals := 0 }
abbrev rmX10_wordOf : Room := { frames := 4, cells := 0, slots := 0, locals := 85 }
abbrev rmX10_isWord : Room := { frames := 5, cells := 0, slots := 0, locals := 108 }
abbrev rmX10_isName : Room := { frames := 6, cells := 0, slots := 0, locals := 129 }
abbrev rmX10_readWhole : Room := { frames := 2, cells := 0, slots := 0, locals := 43 }
abbrev rmX10_readPart : Room := { frames := 6, cells := 0, slots := 0, locals := 129 }
abbrev rmX10_begins : Room := { frames := 2, cells := 0, slots := 0, locals := 43 }
abbrev rmX10_readFresh : Room := { frames := 7, cells := 0, slots := 0, locals := 149 }
set_option maxHeartbeats 4000000 in
set_option maxRecDepth 100000 in
theorem c_X9_find (g : GG) (l : Launch) (K len : Nat → Nat) (I : Nat → Nat → Int32) (J : Nat → Nat → Int64) (R : Nat → Nat → Option Nat) (hs : Sf K len I R) (a0 : Nat) (ka0 : K a0 = 10) (y1 : Int64) : Ct g l yX9_find cX9_find 4 (Option.some Jvm.ClassFile.FieldType.int) rmX9_find [.ref a0, .long y1] (K, len, I, J, R) (pI0 (K, len, I, J, R) (fun r => (-1 ≤ r.toInt) ∧ (r.toInt ≤ 18))) := by
  refine Ct_intro (by decide +kernel) (Nat.le_of_ble_eq_true rfl) (fun X hC hL hKK hNm hr hlk hQ => ?_)
  subst hL
  have hC : Cx g X cX9_find "HillTapModel$Hill" 4 rmX9_find := hC
  show P g X 4 0 [(0, .ref a0), (1, .long y1)] [] 0 0 (K, len, I, J, R)
  have hF : Fr K [] I I := Fr.refl
  refine r_iconst hC (v := (0)) dX9_find_0 (by decide) (by decide) (fun x1_ e1 t1 => ?_)
  refine r_istore_n hC (lv' := [(3, .int x1_), (0, .ref a0), (1, .long y1)]) dX9_find_1 (by decide) rfl ?_
  have LP2 : ∀ (mu : Nat) (x2_3 : Int32) (v2_0 : 0 ≤ x2_3.toInt) (v2_1 : x2_3.toInt ≤ 19), (19 - x2_3.toInt).toNat = mu → P g X 4 2 [(0, .ref a0), (1, .long y1), (3, .int x2_3)] [] 0 0 (K, len, I, J, R) := by
    intro mu; induction mu using Nat.strongRecOn with | ind mu ih => ?_
    intro x2_3 v2_0 v2_1 hmu
    have ih2 := ih
    clear ih
    have hmu2 := hmu
    clear hmu
    refine r_iload_n hC dX9_find_2 2 rfl ?_
    refine r_aload_n hC dX9_find_3 0 rfl ?_
    refine r_geti hC 10 (ci := 9) rfl u9_in (by decide) mT_5_103 dX9_find_4 ka0 rfl rfl (fun x3_ e3 => ?_)
    have r3 := hs.rng ka0 rfl e3
    have f3 : x3_.toInt = (I a0 10).toInt := by rw [e3]
    refine r_icmp_ge hC (tgt := 29) dX9_find_7 (by decide) (fun c4 => ?_) (fun c4 => ?_)
    · refine r_iconst hC (v := (-1)) dX9_find_29 (by decide) (by decide) (fun x5_ e5 t5 => ?_)
      exact r_iret hC hQ hlk hr rfl (by decide) (by decide) dX9_find_30 ⟨_, rfl, rfl, ⟨(by omega), (by omega)⟩⟩
    · refine r_aload_n hC dX9_find_10 0 rfl ?_
      obtain ⟨a6_, hb6, hk6, hn6⟩ := hs.row ka0 25 82 19 (by decide) (by decide)
      refine r_getr hC 25 (ci := 9) rfl u9_in (by decide) mT_5_133 dX9_find_11 ka0 rfl rfl hb6 ?_
      refine r_iload_n hC dX9_find_14 2 rfl ?_
      refine x_laload hC hk6 hn6 (by decide) rfl rfl dX9_find_15 (by omega) (by omega) (fun y7_ e7 => ?_)
      refine r_lload_n hC dX9_find_16 1 rfl ?_
      refine r_lcmp hC dX9_find_17 (fun x8_ e8 => ?_)
      refine r_if_ne hC (tgt := 23) dX9_find_18 (by decide) (fun c9 => ?_) (fun c9 => ?_)
      · obtain ⟨x10_, e10⟩ : ∃ z : Int32, z = x2_3 + Int32.ofInt (1) := ⟨_, rfl⟩
        refine r_iinc hC (j := 2) (v := x10_) (lv' := [(3, .int x10_), (0, .ref a0), (1, .long y1)]) dX9_find_23 rfl (by rw [e10]) (by decide) rfl ?_
        try have t10 : x10_.toInt = x2_3.toInt + (1) := by rw [e10]; exact (ti_add (b := Int32.ofInt (1)) (by show _ ≤ _ + (1 : Int); omega) (by show _ + (1 : Int) ≤ _; omega))
        refine r_goto hC (tgt := 2) dX9_find_26 (by decide) ?_
        refine r_sub [1, 2, 0] rfl ?_
        exact ih2 ((19 - x10_.toInt).toNat) (by omega) x10_ (by omega) (by omega) rfl
      · refine r_iload_n hC dX9_find_21 2 rfl ?_
        exact r_iret hC hQ hlk hr rfl (by decide) (by decide) dX9_find_22 ⟨_, rfl, rfl, ⟨(by omega), (by omega)⟩⟩
  refine r_sub [1, 2, 0] rfl ?_
  exact LP2 _ x1_ (by omega) (by omega) rfl
