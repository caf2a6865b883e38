section SF3
variable {K len : Nat → Nat} {I I' I1 : Nat → Nat → Int32} {R R' : Nat → Nat → Option Nat} {a : Nat} {v w : Int32}
theorem Sf.put345 (h : Sf K len I R) (e1 : I1 = up2 I a 4 v) (e : I' = up2 I1 a 5 w) (hk : K a = 3) (h0 : 0 ≤ v.toInt) (h1 : v.toInt ≤ 16) (g0 : 0 ≤ w.toInt) (g1 : w.toInt ≤ 16) (h2 : w.toInt ≤ v.toInt) : Sf K len I' R := by
  refine ⟨h.1, h.2.1, h.2.2.1, (h.2.2.2.1.put e1 hk (fun lo hi z => by cases z; exact ⟨h0, h1⟩)).put e hk (fun lo hi z => by cases z; exact ⟨g0, g1⟩), (h.2.2.2.2.1.put e1 hk (fun lo hi z => by cases z)).put e hk (fun lo hi z => by cases z), ⟨fun b hb => ?_, fun b hb => ?_, fun b hb => ?_, fun b kd mo hb g1 g2 j => ?_⟩⟩
  · by_cases hba : b = a
    · subst hba; rw [e, up2_self, up2_ne _ _ (Or.inr (by decide)), e1, up2_self]; exact h2
    · rw [up2_at (Or.inl hba) e, up2_at (Or.inl hba) e1, up2_at (Or.inl hba) e, up2_at (Or.inl hba) e1]; exact h.2.2.2.2.2.1 b hb
  · rw [up2_kk e hk hb (by decide), up2_kk e1 hk hb (by decide), up2_kk e hk hb (by decide), up2_kk e1 hk hb (by decide)]; exact h.2.2.2.2.2.2.1 b hb
  · rw [up2_kk e hk hb (by decide), up2_kk e1 hk hb (by decide)]; exact h.2.2.2.2.2.2.2.1 b hb
  · have z1 := h.2.2.1.kd hb g1; have z2 := h.2.2.1.mo hb g2; rw [up2_kk e hk hb (by decide), up2_kk e1 hk hb (by decide), up2_kk e hk z1 (by omega), up2_kk e1 hk z1 (by omega), up2_kk e hk z2 (by omega), up2_kk e1 hk z2 (by omega)]; exact h.2.2.2.2.2.2.2.2 b kd mo hb g1 g2 j
theorem r_kk {k q r b j t : Nat} (e : R' = up2 R a k (some t)) (hk : K a = q) (hb : K b = r) (h : r ≠ q) : R' b j = R b j := by
  rw [e, up2_ne _ _ (Or.inl fun z => h (by rw [← hb, ← hk, z]))]
/-- the class's hill and spare -/
theorem Sf.putR9 (h : Sf K len I R) {k t : Nat} (e : R' = up2 R a k (some t)) (hk : K a = 9) (hk2 : k = 2 ∨ k = 3) (ht : K t = 2) : Sf K len I R' := by
  refine ⟨fun b en hen => ?_, ⟨fun b hb j hj => ?_, fun b hb j hj => ?_, fun b hb => ?_, fun b hb => ?_⟩, fun b hb => ?_, h.2.2.2.1, h.2.2.2.2.1, h.2.2.2.2.2.1, h.2.2.2.2.2.2.1, h.2.2.2.2.2.2.2.1, fun b kd mo hb g1 g2 => ?_⟩
  · by_cases hba : b = a ∧ en.1 = k
    · obtain ⟨rfl, h2⟩ := hba
      refine ⟨t, by rw [e, h2, up2_self], ?_⟩
      rw [hk] at hen
      have : ∀ en ∈ refT 9, (en.1 = 2 ∨ en.1 = 3) → en.2.1 = 2 ∧ en.2.2 = 0 := by decide
      obtain ⟨g1, g2⟩ := this en hen (by rw [h2]; exact hk2)
      exact ⟨by rw [ht, g1], fun z => absurd g2 z⟩
    · obtain ⟨c, h1, h2⟩ := h.1 b en hen
      refine ⟨c, ?_, h2⟩
      rw [e, up2_ne _ _ ?_]
      · exact h1
      · by_cases z : b = a
        · exact Or.inr fun y => hba ⟨z, y⟩
        · exact Or.inl z
  · rw [r_kk e hk hb (by decide)]; exact h.2.1.1 b hb j hj
  · rw [r_kk e hk hb (by decide)]; exact h.2.1.2.1 b hb j hj
  · rw [r_kk e hk hb (by decide)]; exact h.2.1.2.2.1 b hb
  · rw [r_kk e hk hb (by decide)]; exact h.2.1.2.2.2 b hb
  · rw [r_kk e hk hb (by decide), r_kk e hk hb (by decide)]; exact h.2.2.1 b hb
  · rw [r_kk e hk hb (by decide)] at g1 g2; exact h.2.2.2.2.2.2.2.2 b kd mo hb g1 g2
/-- the reference's hill and reading -/
theorem Sf.putR11 (h : Sf K len I R) {k t : Nat} (e : R' = up2 R a k (some t)) (hk : K a = 11) (hk2 : k = 3 ∨ k = 4) (ht : K t = 10) : Sf K len I R' := by
  refine ⟨fun b en hen => ?_, ⟨fun b hb j hj => ?_, fun b hb j hj => ?_, fun b hb => ?_, fun b hb => ?_⟩, fun b hb => ?_, h.2.2.2.1, h.2.2.2.2.1, h.2.2.2.2.2.1, h.2.2.2.2.2.2.1, h.2.2.2.2.2.2.2.1, fun b kd mo hb g1 g2 => ?_⟩
  · obtain ⟨c, h1, h2⟩ := h.1 b en hen
    refine ⟨c, ?_, h2⟩
    by_cases hba : b = a ∧ en.1 = k
    · obtain ⟨rfl, h3⟩ := hba
      rw [hk] at hen
      have : ∀ en ∈ refT 11, ¬ (en.1 = 3 ∨ en.1 = 4) := by decide
      exact absurd (by rw [h3]; exact hk2) (this en hen)
    · rw [e, up2_ne _ _ ?_]
      · exact h1
      · by_cases z : b = a
        · exact Or.inr fun y => hba ⟨z, y⟩
        · exact Or.inl z
  · rw [r_kk e hk hb (by decide)]; exact h.2.1.1 b hb j hj
  · rw [r_kk e hk hb (by decide)]; exact h.2.1.2.1 b hb j hj
  · by_cases z : b = a ∧ 3 = k
    · obtain ⟨rfl, rfl⟩ := z; exact Or.inr ⟨t, by rw [e, up2_self], ht⟩
    · rw [e, up2_ne _ _ (by by_cases y : b = a; exact Or.inr fun x => z ⟨y, x⟩; exact Or.inl y)]; exact h.2.1.2.2.1 b hb
  · by_cases z : b = a ∧ 4 = k
    · obtain ⟨rfl, rfl⟩ := z; exact Or.inr ⟨t, by rw [e, up2_self], ht⟩
    · rw [e, up2_ne _ _ (by by_cases y : b = a; exact Or.inr fun x => z ⟨y, x⟩; exact Or.inl y)]; exact h.2.1.2.2.2 b hb
  · rw [r_kk e hk hb (by decide), r_kk e hk hb (by decide)]; exact h.2.2.1 b hb
  · rw [r_kk e hk hb (by decide)] at g1 g2; exact h.2.2.2.2.2.2.2.2 b kd mo hb g1 g2
end SF3
def pI3 (M : MM) (Q : Int32 → (Nat → Nat → Int32) → (Nat → Nat → Int64) → (Nat → Nat → Option Nat) → Prop) : Option Value → MM → Prop := fun v M' => ∃ (r : Int32) (I' : Nat → Nat → Int32) (J' : Nat → Nat → Int64) (R' : Nat → Nat → Option Nat), v = some (.int r) ∧ M' = (M.1, M.2.1, I', J', R') ∧ Q r I' J' R'
theorem aI3 {F : List Value → MM → Prop} {rest : List Value} {M : MM} {Q : Int32 → (Nat → Nat → Int32) → (Nat → Nat → Int64) → (Nat → Nat → Option Nat) → Prop} (k : ∀ r I' J' R', Q r I' J' R' → F (.int r :: rest) (M.1, M.2.1, I', J', R')) : ∀ v M', pI3 M Q v M' → F (v.toList ++ rest) M' := by rintro v M' ⟨r, I', J', R', rfl, rfl, h⟩; exact k r I' J' R' h

abbrev rmX2_addFrom : Room := { frames := 0, cells := 0, slots := 0, locals := 0 }
abbrev rmX2_empty : Room := { frames := 0, cells := 0, slots := 0, locals := 0 }
abbrev rmX1_empty : Room := { frames := 1, cells := 0, slots := 0, locals := 23 }
abbrev rmX8_row : Room := { frames := 0, cells := 0, slots := 0, locals := 0 }
abbrev rmX3_add : Room := { frames := 0, cells := 0, slots := 0, locals := 0 }
abbrev rmX3_firstMisfit : Room := { frames := 1, cells := 0, slots := 0, locals := 21 }
abbrev rmX3_firstDayOf : Room := { frames := 1, cells := 0, slots := 0, locals := 21 }
abbrev rmX0_togetherAhead : Room := { frames := 0, cells := 0, slots := 0, locals := 0 }
abbrev rmX0_heldFrom : Room := { frames := 1, cells := 0, slots := 0, locals := 21 }
abbrev rmX0_speedOf : Room := { frames := 1, cells := 0, slots := 0, locals := 21 }
abbrev rmX0_creepBy : Room := { frames := 1, cells := 0, slots := 0, locals := 21 }
abbrev rmX0_fillByRise : Room := { frames := 1, cells := 0, slots := 0, locals := 21 }
abbrev rmX0_fillByMean : Room := { frames := 1, cells := 0, slots := 0, locals := 21 }
abbrev rmX0_fillByRain : Room := { frames := 0, cells := 0, slots := 0, locals := 0 }
abbrev rmX0_fillAdds : Room := { frames := 2, cells := 0, slots := 0, locals := 47 }
abbrev rmX0_follow : Room := { frames := 3, cells := 0, slots := 0, locals := 72 }
set_option maxHeartbeats 4000000 in
set_option maxRecDepth 100000 in
theorem c_X8_row (g : GG) (l : Launch) (K len : Nat → Nat) (I : Nat → Nat → Int32) (J : Nat → Nat → Int64) (R : Nat → Nat → Option Nat) (hs : Sf K len I R) (x0 : Int32) (x1 : Int32) (p0 : 0 ≤ x0.toInt) (p1 : x0.toInt ≤ 4) (p2 : 0 ≤ x1.toInt) (p3 : x1.toInt ≤ 59) : Ct g l yX8_row cX8_row 2 (Option.some Jvm.ClassFile.FieldType.int) rmX8_row [.int x0, .int x1] (K, len, I, J, R) (pI0 (K, len, I, J, R) (fun r => (r.toInt = x0.toInt * 60 + x1.toInt))) := by
  refine Ct_intro (by decide +kernel) (Nat.le_of_ble_eq_true rfl) (fun X hC hL hKK hNm hr hlk hQ => ?_)
  subst hL
  have hC : Cx g X cX8_row "HillTap" 2 rmX8_row := hC
  show P g X 2 0 [(0, .int x0), (1, .int x1)] [] 0 0 (K, len, I, J, R)
  have hF : Fr K [] I I := Fr.refl
  have b_x0 := ti_rng x0
  have b_x1 := ti_rng x1
  refine r_iload_n hC dX8_row_0 0 rfl ?_
  refine r_bipush hC (v := (60)) dX8_row_1 (by decide) (by decide) (fun x1_ e1 t1 => ?_)
  refine r_imul hC dX8_row_3 (fun x2_ e2 => ?_)
  try have t2 : x2_.toInt = x0.toInt * (60) := by rw [e2]; exact ti_mul rfl (by omega) (by omega) (by omega)
  refine r_iload_n hC dX8_row_4 1 rfl ?_
  refine r_iadd hC dX8_row_5 (fun x3_ e3 => ?_)
  try have t3 : x3_.toInt = x2_.toInt + x1.toInt := by rw [e3]; exact ti_add (by omega) (by omega)
  exact r_iret hC hQ hlk hr rfl (by decide) (by decide) dX8_row_6 ⟨_, rfl, rfl, (by omega)⟩
set_option maxHeartbeats 4000000 in
set_option maxRecDepth 100000 in
theorem c_X3_firstMisfit (g : GG) (l : Launch) (K len : Nat → Nat) (I : Nat → Nat → Int32) (J : Nat → Nat → Int64) (R : Nat → Nat → Option Nat) (hs : Sf K len I R) (a0 : Nat) (ka0 : K a0 = 4) (a1 : Nat) (ka1 : K a1 = 1) : Ct g l yX3_firstMisfit cX3_firstMisfit 5 (Option.some Jvm.ClassFile.FieldType.int) rmX3_firstMisfit [.ref a0, .ref a1] (K, len, I, J, R) (pI0 (K, len, I, J, R) (fun r => True)) := by
  refine Ct_intro (by decide +kernel) (Nat.le_of_ble_eq_true rfl) (fun X hC hL hKK hNm hr hlk hQ => ?_)
  subst hL
  have hC : Cx g X cX3_firstMisfit "HillTap$Readings" 5 rmX3_firstMisfit := hC
  show P g X 5 0 [(0, .ref a0), (1, .ref a1)] [] 0 0 (K, len, I, J, R)
  have hF : Fr K [] I I := Fr.refl
  refine r_bipush hC (v := (60)) dX3_firstMisfit_0 (by decide) (by decide) (fun x1_ e1 t1 => ?_)
  refine r_istore_n hC (lv' := [(2, .int x1_), (0, .ref a0), (1, .ref a1)]) dX3_firstMisfit_2 (by decide) rfl ?_
  refine r_iconst hC (v := (0)) dX3_firstMisfit_3 (by decide) (by decide) (fun x2_ e2 t2 => ?_)
  refine r_istore_n hC (lv' := [(3, .int x2_), (2, .int x1_), (0, .ref a0), (1, .ref a1)]) dX3_firstMisfit_4 (by decide) rfl ?_
  have LP3 : ∀ (mu : Nat) (x3_3 : Int32) (x3_2 : Int32) (v3_0 : 0 ≤ x3_3.toInt) (v3_1 : x3_3.toInt ≤ 24), (24 - x3_3.toInt).toNat = mu → P g X 5 5 [(0, .ref a0), (1, .ref a1), (2, .int x3_2), (3, .int x3_3)] [] 0 0 (K, len, I, J, R) := by
    intro mu; induction mu using Nat.strongRecOn with | ind mu ih => ?_
    intro x3_3 x3_2 v3_0 v3_1 hmu
    have ih3 := ih
    clear ih
    have hmu3 := hmu
    clear hmu
    refine r_iload_n hC dX3_firstMisfit_5 3 rfl ?_
    refine r_aload_n hC dX3_firstMisfit_6 0 rfl ?_
    refine r_geti hC 0 (ci := 3) rfl u3_in (by decide) mT_2_60 dX3_firstMisfit_7 ka0 rfl rfl (fun x4_ e4 => ?_)
    have r4 := hs.rng ka0 rfl e4
    refine r_icmp_ge hC (tgt := 73) dX3_firstMisfit_10 (by decide) (fun c5 => ?_) (fun c5 => ?_)
    · refine r_iload_n hC dX3_firstMisfit_73 2 rfl ?_
      exact r_iret hC hQ hlk hr rfl (by decide) (by decide) dX3_firstMisfit_74 ⟨_, rfl, rfl, trivial⟩
    · refine r_aload_n hC dX3_firstMisfit_13 1 rfl ?_
      obtain ⟨a6_, hb6, hk6, hn6⟩ := hs.row ka1 1 51 300 (by decide) (by decide)
      refine r_getr hC 1 (ci := 0) rfl u0_in (by decide) mT_2_28 dX3_firstMisfit_14 ka1 rfl rfl hb6 ?_
      refine r_aload_n hC dX3_firstMisfit_17 0 rfl ?_
      obtain ⟨a7_, hb7, hk7, hn7⟩ := hs.row ka0 1 46 24 (by decide) (by decide)
      refine r_getr hC 1 (ci := 3) rfl u3_in (by decide) mT_2_62 dX3_firstMisfit_18 ka0 rfl rfl hb7 ?_
      refine r_iload_n hC dX3_firstMisfit_21 3 rfl ?_
      refine x_iaload hC hk7 hn7 (by decide) rfl rfl dX3_firstMisfit_22 (by omega) (by omega) (fun x8_ e8 => ?_)
      have r8 := hs.arr hk7 hn7 rfl (by omega) (by omega) e8
      refine r_aload_n hC dX3_firstMisfit_23 0 rfl ?_
      obtain ⟨a9_, hb9, hk9, hn9⟩ := hs.row ka0 2 47 24 (by decide) (by decide)
      refine r_getr hC 2 (ci := 3) rfl u3_in (by decide) mT_2_63 dX3_firstMisfit_24 ka0 rfl rfl hb9 ?_
      refine r_iload_n hC dX3_firstMisfit_27 3 rfl ?_
      refine x_iaload hC hk9 hn9 (by decide) rfl rfl dX3_firstMisfit_28 (by omega) (by omega) (fun x10_ e10 => ?_)
      have r10 := hs.arr hk9 hn9 rfl (by omega) (by omega) e10
      refine r_callSN hC (As := [.int x8_, .int x10_]) (rest := [.ref a6_]) (c_X8_row g (xL X) K len I J R hs x8_ x10_ (by omega) (by omega) (by omega) (by omega)) mT_3_192 mT_1_1 nM_6 mT_3_191 okX8_row ⟨by decide, by decide⟩ rfl rfl (Nat.le_of_ble_eq_true rfl) ⟨by decide, by decide⟩ dX3_firstMisfit_29 (aI0 (F := fun st M => P g X 5 32 [(0, .ref a0), (1, .ref a1), (2, .int x3_2), (3, .int x3_3)] st _ _ M) (M := (K, len, I, J, R)) fun x11_ h11 => ?_)
      have k11_0 := h11
      show P g X 5 32 [(0, .ref a0), (1, .ref a1), (2, .int x3_2), (3, .int x3_3)] [.int x11_, .ref a6_] _ _ (K, len, I, J, R)
      refine x_iaload hC hk6 hn6 (by decide) rfl rfl dX3_firstMisfit_32 (by omega) (by omega) (fun x12_ e12 => ?_)
      refine r_aload_n hC dX3_firstMisfit_33 0 rfl ?_
      obtain ⟨a13_, hb13, hk13, hn13⟩ := hs.row ka0 3 65 24 (by decide) (by decide)
      refine r_getr hC 3 (ci := 3) rfl u3_in (by decide) mT_2_64 dX3_firstMisfit_34 ka0 rfl rfl hb13 ?_
      refine r_iload_n hC dX3_firstMisfit_37 3 rfl ?_
      refine x_iaload hC hk13 hn13 (by decide) rfl rfl dX3_firstMisfit_38 (by omega) (by omega) (fun x14_ e14 => ?_)
      refine r_isub hC dX3_firstMisfit_39 (fun x15_ e15 => ?_)
      try have t15 : x15_.toInt = x12_.toInt - x14_.toInt := by rw [e15]; exact ti_sub (by omega) (by omega)
      refine r_mabs hC mT_3_232 mT_3_233 mT_1_12 mT_3_234 (by decide) (Nat.le_of_ble_eq_true rfl) (Nat.zero_le _) (Nat.zero_le _) dX3_firstMisfit_40 (fun x16_ e16 => ?_)
      refine r_istore hC (lv' := [(4, .int x16_), (0, .ref a0), (1, .ref a1), (2, .int x3_2), (3, .int x3_3)]) dX3_firstMisfit_43 (by decide) rfl ?_
      refine r_iload hC dX3_firstMisfit_45 0 rfl ?_
      refine r_aload_n hC dX3_firstMisfit_47 1 rfl ?_
      obtain ⟨a17_, hb17, hk17, hn17⟩ := hs.row ka0 4 66 24 (by decide) (by decide)
      refine r_getr hC 4 (ci := 3) rfl u3_in (by decide) mT_2_65 dX3_firstMisfit_48 ka0 rfl rfl hb17 ?_
      refine r_iload_n hC dX3_firstMisfit_51 4 rfl ?_
      refine x_iaload hC hk17 hn17 (by decide) rfl rfl dX3_firstMisfit_52 (by omega) (by omega) (fun x18_ e18 => ?_)
      refine r_icmp_le hC (tgt := 67) dX3_firstMisfit_53 (by decide) (fun c19 => ?_) (fun c19 => ?_)
      · obtain ⟨x20_, e20⟩ : ∃ z : Int32, z = x3_3 + Int32.ofInt (1) := ⟨_, rfl⟩
        refine r_iinc hC (j := 4) (v := x20_) (lv' := [(3, .int x20_), (4, .int x16_), (0, .ref a0), (1, .ref a1), (2, .int x3_2)]) dX3_firstMisfit_67 rfl (by rw [e20]) (by decide) rfl ?_
        try have t20 : x20_.toInt = x3_3.toInt + (1) := by rw [e20]; exact (ti_add (b := Int32.ofInt (1)) (by show _ ≤ _ + (1 : Int); omega) (by show _ + (1 : Int) ≤ _; omega))
        refine r_goto hC (tgt := 5) dX3_firstMisfit_70 (by decide) ?_
        refine r_sub [2, 3, 4, 0] rfl ?_
        exact ih3 ((24 - x20_.toInt).toNat) (by omega) x20_ x3_2 (by omega) (by omega) rfl
      · refine r_iload_n hC dX3_firstMisfit_56 3 rfl ?_
        refine r_aload_n hC dX3_firstMisfit_57 1 rfl ?_
        refine r_getr hC 2 (ci := 3) rfl u3_in (by decide) mT_2_63 dX3_firstMisfit_58 ka0 rfl rfl hb9 ?_
        refine r_iload_n hC dX3_firstMisfit_61 4 rfl ?_
        refine x_iaload hC hk9 hn9 (by decide) rfl rfl dX3_firstMisfit_62 (by omega) (by omega) (fun x21_ e21 => ?_)
        have r21 := hs.arr hk9 hn9 rfl (by omega) (by omega) e21
        refine r_mmin hC mT_3_235 mT_2_154 mT_1_12 mT_2_155 (by decide) (Nat.le_of_ble_eq_true rfl) (Nat.zero_le _) (Nat.zero_le _) dX3_firstMisfit_63 (fun x22_ e22 t22a t22b t22c => ?_)
        refine r_istore_n hC (lv' := [(2, .int x22_), (4, .int x16_), (0, .ref a0), (1, .ref a1), (3, .int x3_3)]) dX3_firstMisfit_66 (by decide) rfl ?_
        obtain ⟨x23_, e23⟩ : ∃ z : Int32, z = x3_3 + Int32.ofInt (1) := ⟨_, rfl⟩
        refine r_iinc hC (j := 4) (v := x23_) (lv' := [(3, .int x23_), (2, .int x22_), (4, .int x16_), (0, .ref a0), (1, .ref a1)]) dX3_firstMisfit_67 rfl (by rw [e23]) (by decide) rfl ?_
        try have t23 : x23_.toInt = x3_3.toInt + (1) := by rw [e23]; exact (ti_add (b := Int32.ofInt (1)) (by show _ ≤ _ + (1 : Int); omega) (by show _ + (1 : Int) ≤ _; omega))
        refine r_goto hC (tgt := 5) dX3_firstMisfit_70 (by decide) ?_
        refine r_sub [3, 4, 1, 0] rfl ?_
        exact ih3 ((24 - x23_.toInt).toNat) (by omega) x23_ x22_ (by omega) (by omega) rfl
  refine r_sub [2, 3, 1, 0] rfl ?_
  exact LP3 _ x2_ x1_ (by omega) (by omega) rfl
set_option maxHeartbeats 4000000 in
set_option maxRecDepth 100000 in
theorem c_X3_firstDayOf (g : GG) (l : Launch) (K len : Nat → Nat) (I : Nat → Nat → Int32) (J : Nat → Nat → Int64) (R : Nat → Nat → Option Nat) (hs : Sf K len I R) (a0 : Nat) (ka0 : K a0 = 4) (x1 : Int32) (x2 : Int32) : Ct g l yX3_firstDayOf cX3_firstDayOf 5 (Option.some Jvm.ClassFile.FieldType.int) rmX3_firstDayOf [.ref a0, .int x1, .int x2] (K, len, I, J, R) (pI0 (K, len, I, J, R) (fun r => True)) := by
  refine Ct_intro (by decide +kernel) (Nat.le_of_ble_eq_true rfl) (fun X hC hL hKK hNm hr hlk hQ => ?_)
  subst hL
  have hC : Cx g X cX3_firstDayOf "HillTap$Readings" 5 rmX3_firstDayOf := hC
  show P g X 5 0 [(0, .ref a0), (1, .int x1), (2, .int x2)] [] 0 0 (K, len, I, J, R)
  have hF : Fr K [] I I := Fr.refl
  have b_x1 := ti_rng x1
  have b_x2 := ti_rng x2
  refine r_bipush hC (v := (60)) dX3_firstDayOf_0 (by decide) (by decide) (fun x1_ e1 t1 => ?_)
  refine r_istore_n hC (lv' := [(3, .int x1_), (0, .ref a0), (1, .int x1), (2, .int x2)]) dX3_firstDayOf_2 (by decide) rfl ?_
  refine r_iconst hC (v := (0)) dX3_firstDayOf_3 (by decide) (by decide) (fun x2_ e2 t2 => ?_)
  refine r_istore hC (lv' := [(4, .int x2_), (3, .int x1_), (0, .ref a0), (1, .int x1), (2, .int x2)]) dX3_firstDayOf_4 (by decide) rfl ?_
  have LP3 : ∀ (mu : Nat) (x3_4 : Int32) (x3_3 : Int32) (v3_0 : 0 ≤ x3_4.toInt) (v3_1 : x3_4.toInt ≤ 24), (24 - x3_4.toInt).toNat = mu → P g X 5 6 [(0, .ref a0), (1, .int x1), (2, .int x2), (3, .int x3_3), (4, .int x3_4)] [] 0 0 (K, len, I, J, R) := by
    intro mu; induction mu using Nat.strongRecOn with | ind mu ih => ?_
    intro x3_4 x3_3 v3_0 v3_1 hmu
    have ih3 := ih
    clear ih
    have hmu3 := hmu
    clear hmu
    refine r_iload hC dX3_firstDayOf_6 4 rfl ?_
    refine r_aload_n hC dX3_firstDayOf_8 0 rfl ?_
    refine r_geti hC 0 (ci := 3) rfl u3_in (by decide) mT_2_60 dX3_firstDayOf_9 ka0 rfl rfl (fun x4_ e4 => ?_)
    have r4 := hs.rng ka0 rfl e4
    refine r_icmp_ge hC (tgt := 55) dX3_firstDayOf_12 (by decide) (fun c5 => ?_) (fun c5 => ?_)
    · refine r_iload_n hC dX3_firstDayOf_55 3 rfl ?_
      refine r_bipush hC (v := (60)) dX3_firstDayOf_56 (by decide) (by decide) (fun x6_ e6 t6 => ?_)
      refine r_icmp_ge hC (tgt := 65) dX3_firstDayOf_58 (by decide) (fun c7 => ?_) (fun c7 => ?_)
      · refine r_bipush hC (v := (-2)) dX3_firstDayOf_65 (by decide) (by decide) (fun x8_ e8 t8 => ?_)
        exact r_iret hC hQ hlk hr rfl (by decide) (by decide) dX3_firstDayOf_67 ⟨_, rfl, rfl, trivial⟩
      · refine r_iload_n hC dX3_firstDayOf_61 3 rfl ?_
        refine r_goto hC (tgt := 67) dX3_firstDayOf_62 (by decide) ?_
        exact r_iret hC hQ hlk hr rfl (by decide) (by decide) dX3_firstDayOf_67 ⟨_, rfl, rfl, trivial⟩
    · refine r_aload_n hC dX3_firstDayOf_15 0 rfl ?_
      obtain ⟨a9_, hb9, hk9, hn9⟩ := hs.row ka0 1 46 24 (by decide) (by decide)
      refine r_getr hC 1 (ci := 3) rfl u3_in (by decide) mT_2_62 dX3_firstDayOf_16 ka0 rfl rfl hb9 ?_
      refine r_iload hC dX3_firstDayOf_19 4 rfl ?_
      refine x_iaload hC hk9 hn9 (by decide) rfl rfl dX3_firstDayOf_21 (by omega) (by omega) (fun x10_ e10 => ?_)
      have r10 := hs.arr hk9 hn9 rfl (by omega) (by omega) e10
      refine r_iload_n hC dX3_firstDayOf_22 1 rfl ?_
      refine r_icmp_ne hC (tgt := 49) dX3_firstDayOf_23 (by decide) (fun c11 => ?_) (fun c11 => ?_)
      · obtain ⟨x12_, e12⟩ : ∃ z : Int32, z = x3_4 + Int32.ofInt (1) := ⟨_, rfl⟩
        refine r_iinc hC (j := 4) (v := x12_) (lv' := [(4, .int x12_), (0, .ref a0), (1, .int x1), (2, .int x2), (3, .int x3_3)]) dX3_firstDayOf_49 rfl (by rw [e12]) (by decide) rfl ?_
        try have t12 : x12_.toInt = x3_4.toInt + (1) := by rw [e12]; exact (ti_add (b := Int32.ofInt (1)) (by show _ ≤ _ + (1 : Int); omega) (by show _ + (1 : Int) ≤ _; omega))
        refine r_goto hC (tgt := 6) dX3_firstDayOf_52 (by decide) ?_
        refine r_sub [1, 2, 3, 4, 0] rfl ?_
        exact ih3 ((24 - x12_.toInt).toNat) (by omega) x12_ x3_3 (by omega) (by omega) rfl
      · refine r_aload_n hC dX3_firstDayOf_26 0 rfl ?_
        obtain ⟨a13_, hb13, hk13, hn13⟩ := hs.row ka0 3 65 24 (by decide) (by decide)
        refine r_getr hC 3 (ci := 3) rfl u3_in (by decide) mT_2_64 dX3_firstDayOf_27 ka0 rfl rfl hb13 ?_
        refine r_iload hC dX3_firstDayOf_30 4 rfl ?_
        refine x_iaload hC hk13 hn13 (by decide) rfl rfl dX3_firstDayOf_32 (by omega) (by omega) (fun x14_ e14 => ?_)
        refine r_iload_n hC dX3_firstDayOf_33 2 rfl ?_
        refine r_icmp_lt hC (tgt := 49) dX3_firstDayOf_34 (by decide) (fun c15 => ?_) (fun c15 => ?_)
        · obtain ⟨x16_, e16⟩ : ∃ z : Int32, z = x3_4 + Int32.ofInt (1) := ⟨_, rfl⟩
          refine r_iinc hC (j := 4) (v := x16_) (lv' := [(4, .int x16_), (0, .ref a0), (1, .int x1), (2, .int x2), (3, .int x3_3)]) dX3_firstDayOf_49 rfl (by rw [e16]) (by decide) rfl ?_
          try have t16 : x16_.toInt = x3_4.toInt + (1) := by rw [e16]; exact (ti_add (b := Int32.ofInt (1)) (by show _ ≤ _ + (1 : Int); omega) (by show _ + (1 : Int) ≤ _; omega))
          refine r_goto hC (tgt := 6) dX3_firstDayOf_52 (by decide) ?_
          refine r_sub [1, 2, 3, 4, 0] rfl ?_
          exact ih3 ((24 - x16_.toInt).toNat) (by omega) x16_ x3_3 (by omega) (by omega) rfl
        · refine r_iload_n hC dX3_firstDayOf_37 3 rfl ?_
          refine r_aload_n hC dX3_firstDayOf_38 0 rfl ?_
          obtain ⟨a17_, hb17, hk17, hn17⟩ := hs.row ka0 2 47 24 (by decide) (by decide)
          refine r_getr hC 2 (ci := 3) rfl u3_in (by decide) mT_2_63 dX3_firstDayOf_39 ka0 rfl rfl hb17 ?_
          refine r_iload hC dX3_firstDayOf_42 4 rfl ?_
          refine x_iaload hC hk17 hn17 (by decide) rfl rfl dX3_firstDayOf_44 (by omega) (by omega) (fun x18_ e18 => ?_)
          have r18 := hs.arr hk17 hn17 rfl (by omega) (by omega) e18
          refine r_mmin hC mT_3_235 mT_2_154 mT_1_12 mT_2_155 (by decide) (Nat.le_of_ble_eq_true rfl) (Nat.zero_le _) (Nat.zero_le _) dX3_firstDayOf_45 (fun x19_ e19 t19a t19b t19c => ?_)
          refine r_istore_n hC (lv' := [(3, .int x19_), (0, .ref a0), (1, .int x1), (2, .int x2), (4, .int x3_4)]) dX3_firstDayOf_48 (by decide) rfl ?_
          obtain ⟨x20_, e20⟩ : ∃ z : Int32, z = x3_4 + Int32.ofInt (1) := ⟨_, rfl⟩
          refine r_iinc hC (j := 4) (v := x20_) (lv' := [(4, .int x20_), (3, .int x19_), (0, .ref a0), (1, .int x1), (2, .int x2)]) dX3_firstDayOf_49 rfl (by rw [e20]) (by decide) rfl ?_
          try have t20 : x20_.toInt = x3_4.toInt + (1) := by rw [e20]; exact (ti_add (b := Int32.ofInt (1)) (by show _ ≤ _ + (1 : Int); omega) (by show _ + (1 : Int) ≤ _; omega))
          refine r_goto hC (tgt := 6) dX3_firstDayOf_52 (by decide) ?_
          refine r_sub [2, 3, 4, 1, 0] rfl ?_
          exact ih3 ((24 - x20_.toInt).toNat) (by omega) x20_ x19_ (by omega) (by omega) rfl
  refine r_sub [2, 3, 4, 1, 0] rfl ?_
  exact LP3 _ x2_ x1_ (by omega) (by omega) rfl
set_option maxHeartbeats 4000000 in
set_option maxRecDepth 100000 in
theorem c_X0_togetherAhead (g : GG) (l : Launch) (K len : Nat → Nat) (I : Nat → Nat → Int32) (J : Nat → Nat → Int64) (R : Nat → Nat → Option Nat) (hs : Sf K len I R) (a0 : Nat) (ka0 : K a0 = 1) (x1 : Int32) (p0 : x1.toInt ≤ 60) : Ct g l yX0_togetherAhead cX0_togetherAhead 2 (Option.some Jvm.ClassFile.FieldType.int) rmX0_togetherAhead [.ref a0, .int x1] (K, len, I, J, R) (pI0 (K, len, I, J, R) (fun r => True)) := by
  refine Ct_intro (by decide +kernel) (Nat.le_of_ble_eq_true rfl) (fun X hC hL hKK hNm hr hlk hQ => ?_)
  subst hL
  have hC : Cx g X cX0_togetherAhead "HillTap$Course" 2 rmX0_togetherAhead := hC
  show P g X 2 0 [(0, .ref a0), (1, .int x1)] [] 0 0 (K, len, I, J, R)
  have hF : Fr K [] I I := Fr.refl
  have b_x1 := ti_rng x1
  refine r_iload_n hC dX0_togetherAhead_0 1 rfl ?_
  refine r_if_le hC (tgt := 15) dX0_togetherAhead_1 (by decide) (fun c1 => ?_) (fun c1 => ?_)
  · refine r_iconst hC (v := (0)) dX0_togetherAhead_15 (by decide) (by decide) (fun x2_ e2 t2 => ?_)
    exact r_iret hC hQ hlk hr rfl (by decide) (by decide) dX0_togetherAhead_16 ⟨_, rfl, rfl, trivial⟩
  · refine r_aload_n hC dX0_togetherAhead_4 0 rfl ?_
    obtain ⟨a3_, hb3, hk3, hn3⟩ := hs.row ka0 3 53 60 (by decide) (by decide)
    refine r_getr hC 3 (ci := 0) rfl u0_in (by decide) mT_2_32 dX0_togetherAhead_5 ka0 rfl rfl hb3 ?_
    refine r_iload_n hC dX0_togetherAhead_8 1 rfl ?_
    refine r_iconst hC (v := (1)) dX0_togetherAhead_9 (by decide) (by decide) (fun x4_ e4 t4 => ?_)
    refine r_isub hC dX0_togetherAhead_10 (fun x5_ e5 => ?_)
    try have t5 : x5_.toInt = x1.toInt - x4_.toInt := by rw [e5]; exact ti_sub (by omega) (by omega)
    refine x_iaload hC hk3 hn3 (by decide) rfl rfl dX0_togetherAhead_11 (by omega) (by omega) (fun x6_ e6 => ?_)
    refine r_goto hC (tgt := 16) dX0_togetherAhead_12 (by decide) ?_
    exact r_iret hC hQ hlk hr rfl (by decide) (by decide) dX0_togetherAhead_16 ⟨_, rfl, rfl, trivial⟩
set_option maxHeartbeats 4000000 in
set_option maxRecDepth 100000 in
theorem c_X0_heldFrom (g : GG) (l : Launch) (K len : Nat → Nat) (I : Nat → Nat → Int32) (J : Nat → Nat → Int64) (R : Nat → Nat → Option Nat) (hs : Sf K len I R) (a0 : Nat) (ka0 : K a0 = 1) (x1 : Int32) (p0 : 0 ≤ x1.toInt) (p1 : x1.toInt ≤ 59) : Ct g l yX0_heldFrom cX0_heldFrom 3 (Option.some Jvm.ClassFile.FieldType.boolean) rmX0_heldFrom [.ref a0, .int x1] (K, len, I, J, R) (pI0 (K, len, I, J, R) (fun r => (0 ≤ r.toInt) ∧ (r.toInt ≤ 1))) := by
  refine Ct_intro (by decide +kernel) (Nat.le_of_ble_eq_true rfl) (fun X hC hL hKK hNm hr hlk hQ => ?_)
  subst hL
  have hC : Cx g X cX0_heldFrom "HillTap$Course" 3 rmX0_heldFrom := hC
  show P g X 3 0 [(0, .ref a0), (1, .int x1)] [] 0 0 (K, len, I, J, R)
  have hF : Fr K [] I I := Fr.refl
  have b_x1 := ti_rng x1
  refine r_iload_n hC dX0_heldFrom_0 1 rfl ?_
  refine r_iconst hC (v := (5)) dX0_heldFrom_1 (by decide) (by decide) (fun x1_ e1 t1 => ?_)
  refine r_iadd hC dX0_heldFrom_2 (fun x2_ e2 => ?_)
  try have t2 : x2_.toInt = x1.toInt + x1_.toInt := by rw [e2]; exact ti_add (by omega) (by omega)
  refine r_bipush hC (v := (59)) dX0_heldFrom_3 (by decide) (by decide) (fun x3_ e3 t3 => ?_)
  refine r_mmin hC mT_3_181 mT_2_154 mT_1_12 mT_2_155 (by decide) (Nat.le_of_ble_eq_true rfl) (Nat.zero_le _) (Nat.zero_le _) dX0_heldFrom_5 (fun x4_ e4 t4a t4b t4c => ?_)
  refine r_istore_n hC (lv' := [(2, .int x4_), (0, .ref a0), (1, .int x1)]) dX0_heldFrom_8 (by decide) rfl ?_
  refine r_aload_n hC dX0_heldFrom_9 1 rfl ?_
  refine r_geti hC 5 (ci := 0) rfl u0_in (by decide) mT_2_35 dX0_heldFrom_10 ka0 rfl rfl (fun x5_ e5 => ?_)
  refine r_bipush hC (v := (-2)) dX0_heldFrom_13 (by decide) (by decide) (fun x6_ e6 t6 => ?_)
  refine r_icmp_eq hC (tgt := 28) dX0_heldFrom_15 (by decide) (fun c7 => ?_) (fun c7 => ?_)
  · refine r_aload_n hC dX0_heldFrom_28 1 rfl ?_
    obtain ⟨a8_, hb8, hk8, hn8⟩ := hs.row ka0 3 53 60 (by decide) (by decide)
    refine r_getr hC 3 (ci := 0) rfl u0_in (by decide) mT_2_32 dX0_heldFrom_29 ka0 rfl rfl hb8 ?_
    refine r_iload_n hC dX0_heldFrom_32 0 rfl ?_
    refine x_iaload hC hk8 hn8 (by decide) rfl rfl dX0_heldFrom_33 (by omega) (by omega) (fun x9_ e9 => ?_)
    refine r_aload_n hC dX0_heldFrom_34 1 rfl ?_
    refine r_iload_n hC dX0_heldFrom_35 2 rfl ?_
    refine r_callV hC (As := [.int x1]) (rest := [.int x9_]) (ci := 0) (c_X0_togetherAhead g (xL X) K len I J R hs a0 ka0 x1 (by omega)) mT_4_51 mT_1_8 mT_4_48 mT_4_49 mT_4_50 okX0_togetherAhead ⟨by decide, by decide⟩ rfl (by show kO (K a0) = _; rw [ka0]; rfl) rfl rfl (Nat.le_of_ble_eq_true rfl) ⟨by decide, by decide⟩ dX0_heldFrom_36 (aI0 (F := fun st M => P g X 3 39 [(2, .int x4_), (0, .ref a0), (1, .int x1)] st _ _ M) (M := (K, len, I, J, R)) fun x10_ h10 => ?_)
    skip
    show P g X 3 39 [(2, .int x4_), (0, .ref a0), (1, .int x1)] [.int x10_, .int x9_] _ _ (K, len, I, J, R)
    refine r_icmp_ge hC (tgt := 46) dX0_heldFrom_39 (by decide) (fun c11 => ?_) (fun c11 => ?_)
    · refine r_iconst hC (v := (0)) dX0_heldFrom_46 (by decide) (by decide) (fun x12_ e12 t12 => ?_)
      exact r_iret hC hQ hlk hr (by rw [e12]; rfl) (by decide) (by decide) dX0_heldFrom_47 ⟨_, rfl, rfl, ⟨(by omega), (by omega)⟩⟩
    · refine r_iconst hC (v := (1)) dX0_heldFrom_42 (by decide) (by decide) (fun x13_ e13 t13 => ?_)
      refine r_goto hC (tgt := 47) dX0_heldFrom_43 (by decide) ?_
      exact r_iret hC hQ hlk hr (by rw [e13]; rfl) (by decide) (by decide) dX0_heldFrom_47 ⟨_, rfl, rfl, ⟨(by omega), (by omega)⟩⟩
  · refine r_aload_n hC dX0_heldFrom_18 1 rfl ?_
    refine r_geti hC 5 (ci := 0) rfl u0_in (by decide) mT_2_35 dX0_heldFrom_19 ka0 rfl rfl (fun x14_ e14 => ?_)
    have w14 : x14_ = x5_ := by rw [e14]; exact e5.symm
    have wt14 : x14_.toInt = x5_.toInt := by rw [w14]
    refine r_iload_n hC dX0_heldFrom_22 0 rfl ?_
    refine r_icmp_gt hC (tgt := 28) dX0_heldFrom_23 (by decide) (fun c15 => ?_) (fun c15 => ?_)
    · refine r_aload_n hC dX0_heldFrom_28 1 rfl ?_
      obtain ⟨a16_, hb16, hk16, hn16⟩ := hs.row ka0 3 53 60 (by decide) (by decide)
      refine r_getr hC 3 (ci := 0) rfl u0_in (by decide) mT_2_32 dX0_heldFrom_29 ka0 rfl rfl hb16 ?_
      refine r_iload_n hC dX0_heldFrom_32 0 rfl ?_
      refine x_iaload hC hk16 hn16 (by decide) rfl rfl dX0_heldFrom_33 (by omega) (by omega) (fun x17_ e17 => ?_)
      refine r_aload_n hC dX0_heldFrom_34 1 rfl ?_
      refine r_iload_n hC dX0_heldFrom_35 2 rfl ?_
      refine r_callV hC (As := [.int x1]) (rest := [.int x17_]) (ci := 0) (c_X0_togetherAhead g (xL X) K len I J R hs a0 ka0 x1 (by omega)) mT_4_51 mT_1_8 mT_4_48 mT_4_49 mT_4_50 okX0_togetherAhead ⟨by decide, by decide⟩ rfl (by show kO (K a0) = _; rw [ka0]; rfl) rfl rfl (Nat.le_of_ble_eq_true rfl) ⟨by decide, by decide⟩ dX0_heldFrom_36 (aI0 (F := fun st M => P g X 3 39 [(2, .int x4_), (0, .ref a0), (1, .int x1)] st _ _ M) (M := (K, len, I, J, R)) fun x18_ h18 => ?_)
      skip
      show P g X 3 39 [(2, .int x4_), (0, .ref a0), (1, .int x1)] [.int x18_, .int x17_] _ _ (K, len, I, J, R)
      refine r_icmp_ge hC (tgt := 46) dX0_heldFrom_39 (by decide) (fun c19 => ?_) (fun c19 => ?_)
      · refine r_iconst hC (v := (0)) dX0_heldFrom_46 (by decide) (by decide) (fun x20_ e20 t20 => ?_)
        exact r_iret hC hQ hlk hr (by rw [e20]; rfl) (by decide) (by decide) dX0_heldFrom_47 ⟨_, rfl, rfl, ⟨(by omega), (by omega)⟩⟩
      · refine r_iconst hC (v := (1)) dX0_heldFrom_42 (by decide) (by decide) (fun x21_ e21 t21 => ?_)
        refine r_goto hC (tgt := 47) dX0_heldFrom_43 (by decide) ?_
        exact r_iret hC hQ hlk hr (by rw [e21]; rfl) (by decide) (by decide) dX0_heldFrom_47 ⟨_, rfl, rfl, ⟨(by omega), (by omega)⟩⟩
    · refine r_iconst hC (v := (0)) dX0_heldFrom_26 (by decide) (by decide) (fun x22_ e22 t22 => ?_)
      exact r_iret hC hQ hlk hr (by rw [e22]; rfl) (by decide) (by decide) dX0_heldFrom_27 ⟨_, rfl, rfl, ⟨(by omega), (by omega)⟩⟩
set_option maxHeartbeats 4000000 in
set_option maxRecDepth 100000 in
theorem c_X0_speedOf (g : GG) (l : Launch) (K len : Nat → Nat) (I : Nat → Nat → Int32) (J : Nat → Nat → Int64) (R : Nat → Nat → Option Nat) (hs : Sf K len I R) (a0 : Nat) (ka0 : K a0 = 1) (a1 : Nat) (ka1 : K a1 = 2) (a2 : Nat) (ka2 : K a2 = 5) (x3 : Int32) (x4 : Int32) (p0 : 0 ≤ x3.toInt) (p1 : x3.toInt ≤ 4) (p2 : 0 ≤ x4.toInt) (p3 : x4.toInt ≤ 59) : Ct g l yX0_speedOf cX0_speedOf 8 (Option.some Jvm.ClassFile.FieldType.int) rmX0_speedOf [.ref a0, .ref a1, .ref a2, .int x3, .int x4] (K, len, I, J, R) (pI0 (K, len, I, J, R) (fun r => True)) := by
  refine Ct_intro (by decide +kernel) (Nat.le_of_ble_eq_true rfl) (fun X hC hL hKK hNm hr hlk hQ => ?_)
  subst hL
  have hC : Cx g X cX0_speedOf "HillTap$Course" 8 rmX0_speedOf := hC
  show P g X 8 0 [(0, .ref a0), (1, .ref a1), (2, .ref a2), (3, .int x3), (4, .int x4)] [] 0 0 (K, len, I, J, R)
  have hF : Fr K [] I I := Fr.refl
  have b_x3 := ti_rng x3
  have b_x4 := ti_rng x4
  refine r_iload_n hC dX0_speedOf_0 3 rfl ?_
  refine r_iload hC dX0_speedOf_1 4 rfl ?_
  refine r_callSN hC (As := [.int x3, .int x4]) (rest := []) (c_X8_row g (xL X) K len I J R hs x3 x4 (by omega) (by omega) (by omega) (by omega)) mT_3_192 mT_1_1 nM_5 mT_3_191 okX8_row ⟨by decide, by decide⟩ rfl rfl (Nat.le_of_ble_eq_true rfl) ⟨by decide, by decide⟩ dX0_speedOf_3 (aI0 (F := fun st M => P g X 8 6 [(0, .ref a0), (1, .ref a1), (2, .ref a2), (3, .int x3), (4, .int x4)] st _ _ M) (M := (K, len, I, J, R)) fun x1_ h1 => ?_)
  have k1_0 := h1
  show P g X 8 6 [(0, .ref a0), (1, .ref a1), (2, .ref a2), (3, .int x3), (4, .int x4)] [.int x1_] _ _ (K, len, I, J, R)
  refine r_istore hC (lv' := [(5, .int x1_), (0, .ref a0), (1, .ref a1), (2, .ref a2), (3, .int x3), (4, .int x4)]) dX0_speedOf_6 (by decide) rfl ?_
  refine r_iload hC dX0_speedOf_8 5 rfl ?_
  refine r_if_le hC (tgt := 25) dX0_speedOf_10 (by decide) (fun c2 => ?_) (fun c2 => ?_)
  · refine r_iconst hC (v := (0)) dX0_speedOf_25 (by decide) (by decide) (fun x3_ e3 t3 => ?_)
    refine r_istore hC (lv' := [(6, .int x3_), (5, .int x1_), (0, .ref a0), (1, .ref a1), (2, .ref a2), (3, .int x3), (4, .int x4)]) dX0_speedOf_26 (by decide) rfl ?_
    refine r_iconst hC (v := (0)) dX0_speedOf_28 (by decide) (by decide) (fun x4_ e4 t4 => ?_)
    refine r_aload_n hC dX0_speedOf_29 3 rfl ?_
    obtain ⟨a5_, hb5, hk5, hn5⟩ := hs.row ka1 3 56 5 (by decide) (by decide)
    refine r_getr hC 3 (ci := 1) rfl u1_in (by decide) mT_1_192 dX0_speedOf_30 ka1 rfl rfl hb5 ?_
    refine r_iload_n hC dX0_speedOf_33 5 rfl ?_
    refine x_iaload hC hk5 hn5 (by decide) rfl rfl dX0_speedOf_34 (by omega) (by omega) (fun x6_ e6 => ?_)
    refine r_iload hC dX0_speedOf_35 0 rfl ?_
    refine r_isub hC dX0_speedOf_37 (fun x7_ e7 => ?_)
    try have t7 : x7_.toInt = x6_.toInt - x3_.toInt := by rw [e7]; exact ti_sub (by omega) (by omega)
    refine r_mmax hC mT_3_176 mT_3_11 mT_1_12 mT_3_12 (by decide) (Nat.le_of_ble_eq_true rfl) (Nat.zero_le _) (Nat.zero_le _) dX0_speedOf_38 (fun x8_ e8 t8a t8b t8c => ?_)
    refine r_istore hC (lv' := [(7, .int x8_), (6, .int x3_), (5, .int x1_), (0, .ref a0), (1, .ref a1), (2, .ref a2), (3, .int x3), (4, .int x4)]) dX0_speedOf_41 (by decide) rfl ?_
    refine r_aload_n hC dX0_speedOf_43 5 rfl ?_
    refine r_geti hC 1 (ci := 4) rfl u4_in (by decide) mT_1_163 dX0_speedOf_44 ka2 rfl rfl (fun x9_ e9 => ?_)
    refine r_iconst hC (v := (4)) dX0_speedOf_47 (by decide) (by decide) (fun x10_ e10 t10 => ?_)
    refine r_icmp_ne hC (tgt := 75) dX0_speedOf_48 (by decide) (fun c11 => ?_) (fun c11 => ?_)
    · refine r_iconst hC (v := (0)) dX0_speedOf_75 (by decide) (by decide) (fun x12_ e12 t12 => ?_)
      refine r_aload_n hC dX0_speedOf_76 4 rfl ?_
      obtain ⟨a13_, hb13, hk13, hn13⟩ := hs.row ka1 2 55 5 (by decide) (by decide)
      refine r_getr hC 2 (ci := 1) rfl u1_in (by decide) mT_1_190 dX0_speedOf_77 ka1 rfl rfl hb13 ?_
      refine r_iload_n hC dX0_speedOf_80 6 rfl ?_
      refine x_iaload hC hk13 hn13 (by decide) rfl rfl dX0_speedOf_81 (by omega) (by omega) (fun x14_ e14 => ?_)
      refine r_aload_n hC dX0_speedOf_82 3 rfl ?_
      obtain ⟨a15_, hb15, hk15, hn15⟩ := hs.row ka0 4 54 60 (by decide) (by decide)
      refine r_getr hC 4 (ci := 0) rfl u0_in (by decide) mT_2_34 dX0_speedOf_83 ka0 rfl rfl hb15 ?_
      refine r_iload hC dX0_speedOf_86 7 rfl ?_
      refine x_iaload hC hk15 hn15 (by decide) rfl rfl dX0_speedOf_88 (by omega) (by omega) (fun x16_ e16 => ?_)
      refine r_iadd hC dX0_speedOf_89 (fun x17_ e17 => ?_)
      try have t17 : x17_.toInt = x14_.toInt + x16_.toInt := by rw [e17]; exact ti_add (by omega) (by omega)
      refine r_iload hC dX0_speedOf_90 0 rfl ?_
      refine r_isub hC dX0_speedOf_92 (fun x18_ e18 => ?_)
      try have t18 : x18_.toInt = x17_.toInt - x8_.toInt := by rw [e18]; exact ti_sub (by omega) (by omega)
      refine r_mmax hC mT_3_176 mT_3_11 mT_1_12 mT_3_12 (by decide) (Nat.le_of_ble_eq_true rfl) (Nat.zero_le _) (Nat.zero_le _) dX0_speedOf_93 (fun x19_ e19 t19a t19b t19c => ?_)
      refine r_bipush hC (v := (10)) dX0_speedOf_96 (by decide) (by decide) (fun x20_ e20 t20 => ?_)
      refine r_idiv hC dX0_speedOf_98 (ne_0 (by omega)) (fun x21_ e21 => ?_)
      exact r_iret hC hQ hlk hr rfl (by decide) (by decide) dX0_speedOf_99 ⟨_, rfl, rfl, trivial⟩
    · refine r_iload hC dX0_speedOf_51 7 rfl ?_
      refine r_if_le hC (tgt := 75) dX0_speedOf_53 (by decide) (fun c22 => ?_) (fun c22 => ?_)
      · refine r_iconst hC (v := (0)) dX0_speedOf_75 (by decide) (by decide) (fun x23_ e23 t23 => ?_)
        refine r_aload_n hC dX0_speedOf_76 4 rfl ?_
        obtain ⟨a24_, hb24, hk24, hn24⟩ := hs.row ka1 2 55 5 (by decide) (by decide)
        refine r_getr hC 2 (ci := 1) rfl u1_in (by decide) mT_1_190 dX0_speedOf_77 ka1 rfl rfl hb24 ?_
        refine r_iload_n hC dX0_speedOf_80 6 rfl ?_
        refine x_iaload hC hk24 hn24 (by decide) rfl rfl dX0_speedOf_81 (by omega) (by omega) (fun x25_ e25 => ?_)
        refine r_aload_n hC dX0_speedOf_82 3 rfl ?_
        obtain ⟨a26_, hb26, hk26, hn26⟩ := hs.row ka0 4 54 60 (by decide) (by decide)
        refine r_getr hC 4 (ci := 0) rfl u0_in (by decide) mT_2_34 dX0_speedOf_83 ka0 rfl rfl hb26 ?_
        refine r_iload hC dX0_speedOf_86 7 rfl ?_
        refine x_iaload hC hk26 hn26 (by decide) rfl rfl dX0_speedOf_88 (by omega) (by omega) (fun x27_ e27 => ?_)
        refine r_iadd hC dX0_speedOf_89 (fun x28_ e28 => ?_)
        try have t28 : x28_.toInt = x25_.toInt + x27_.toInt := by rw [e28]; exact ti_add (by omega) (by omega)
        refine r_iload hC dX0_speedOf_90 0 rfl ?_
        refine r_isub hC dX0_speedOf_92 (fun x29_ e29 => ?_)
        try have t29 : x29_.toInt = x28_.toInt - x8_.toInt := by rw [e29]; exact ti_sub (by omega) (by omega)
        refine r_mmax hC mT_3_176 mT_3_11 mT_1_12 mT_3_12 (by decide) (Nat.le_of_ble_eq_true rfl) (Nat.zero_le _) (Nat.zero_le _) dX0_speedOf_93 (fun x30_ e30 t30a t30b t30c => ?_)
        refine r_bipush hC (v := (10)) dX0_speedOf_96 (by decide) (by decide) (fun x31_ e31 t31 => ?_)
        refine r_idiv hC dX0_speedOf_98 (ne_0 (by omega)) (fun x32_ e32 => ?_)
        exact r_iret hC hQ hlk hr rfl (by decide) (by decide) dX0_speedOf_99 ⟨_, rfl, rfl, trivial⟩
      · refine r_aload_n hC dX0_speedOf_56 3 rfl ?_
        obtain ⟨a33_, hb33, hk33, hn33⟩ := hs.row ka0 0 50 300 (by decide) (by decide)
        refine r_getr hC 0 (ci := 0) rfl u0_in (by decide) mT_2_25 dX0_speedOf_57 ka0 rfl rfl hb33 ?_
        refine r_iload hC dX0_speedOf_60 2 rfl ?_
        refine r_iconst hC (v := (1)) dX0_speedOf_62 (by decide) (by decide) (fun x34_ e34 t34 => ?_)
        refine r_isub hC dX0_speedOf_63 (fun x35_ e35 => ?_)
        try have t35 : x35_.toInt = x1_.toInt - x34_.toInt := by rw [e35]; exact ti_sub (by omega) (by omega)
        refine x_iaload hC hk33 hn33 (by decide) rfl rfl dX0_speedOf_64 (by omega) (by omega) (fun x36_ e36 => ?_)
        refine r_aload_n hC dX0_speedOf_65 5 rfl ?_
        refine r_geti hC 3 (ci := 4) rfl u4_in (by decide) mT_1_169 dX0_speedOf_66 ka2 rfl rfl (fun x37_ e37 => ?_)
        refine r_icmp_lt hC (tgt := 75) dX0_speedOf_69 (by decide) (fun c38 => ?_) (fun c38 => ?_)
        · refine r_iconst hC (v := (0)) dX0_speedOf_75 (by decide) (by decide) (fun x39_ e39 t39 => ?_)
          refine r_aload_n hC dX0_speedOf_76 4 rfl ?_
          obtain ⟨a40_, hb40, hk40, hn40⟩ := hs.row ka1 2 55 5 (by decide) (by decide)
          refine r_getr hC 2 (ci := 1) rfl u1_in (by decide) mT_1_190 dX0_speedOf_77 ka1 rfl rfl hb40 ?_
          refine r_iload_n hC dX0_speedOf_80 6 rfl ?_
          refine x_iaload hC hk40 hn40 (by decide) rfl rfl dX0_speedOf_81 (by omega) (by omega) (fun x41_ e41 => ?_)
          refine r_aload_n hC dX0_speedOf_82 3 rfl ?_
          obtain ⟨a42_, hb42, hk42, hn42⟩ := hs.row ka0 4 54 60 (by decide) (by decide)
          refine r_getr hC 4 (ci := 0) rfl u0_in (by decide) mT_2_34 dX0_speedOf_83 ka0 rfl rfl hb42 ?_
          refine r_iload hC dX0_speedOf_86 7 rfl ?_
          refine x_iaload hC hk42 hn42 (by decide) rfl rfl dX0_speedOf_88 (by omega) (by omega) (fun x43_ e43 => ?_)
          refine r_iadd hC dX0_speedOf_89 (fun x44_ e44 => ?_)
          try have t44 : x44_.toInt = x41_.toInt + x43_.toInt := by rw [e44]; exact ti_add (by omega) (by omega)
          refine r_iload hC dX0_speedOf_90 0 rfl ?_
          refine r_isub hC dX0_speedOf_92 (fun x45_ e45 => ?_)
          try have t45 : x45_.toInt = x44_.toInt - x8_.toInt := by rw [e45]; exact ti_sub (by omega) (by omega)
          refine r_mmax hC mT_3_176 mT_3_11 mT_1_12 mT_3_12 (by decide) (Nat.le_of_ble_eq_true rfl) (Nat.zero_le _) (Nat.zero_le _) dX0_speedOf_93 (fun x46_ e46 t46a t46b t46c => ?_)
          refine r_bipush hC (v := (10)) dX0_speedOf_96 (by decide) (by decide) (fun x47_ e47 t47 => ?_)
          refine r_idiv hC dX0_speedOf_98 (ne_0 (by omega)) (fun x48_ e48 => ?_)
          exact r_iret hC hQ hlk hr rfl (by decide) (by decide) dX0_speedOf_99 ⟨_, rfl, rfl, trivial⟩
        · refine r_iconst hC (v := (0)) dX0_speedOf_72 (by decide) (by decide) (fun x49_ e49 t49 => ?_)
          refine r_istore hC (lv' := [(7, .int x49_), (6, .int x3_), (5, .int x1_), (0, .ref a0), (1, .ref a1), (2, .ref a2), (3, .int x3), (4, .int x4)]) dX0_speedOf_73 (by decide) rfl ?_
          refine r_iconst hC (v := (0)) dX0_speedOf_75 (by decide) (by decide) (fun x50_ e50 t50 => ?_)
          refine r_aload_n hC dX0_speedOf_76 4 rfl ?_
          obtain ⟨a51_, hb51, hk51, hn51⟩ := hs.row ka1 2 55 5 (by decide) (by decide)
          refine r_getr hC 2 (ci := 1) rfl u1_in (by decide) mT_1_190 dX0_speedOf_77 ka1 rfl rfl hb51 ?_
          refine r_iload_n hC dX0_speedOf_80 6 rfl ?_
          refine x_iaload hC hk51 hn51 (by decide) rfl rfl dX0_speedOf_81 (by omega) (by omega) (fun x52_ e52 => ?_)
          refine r_aload_n hC dX0_speedOf_82 3 rfl ?_
          obtain ⟨a53_, hb53, hk53, hn53⟩ := hs.row ka0 4 54 60 (by decide) (by decide)
          refine r_getr hC 4 (ci := 0) rfl u0_in (by decide) mT_2_34 dX0_speedOf_83 ka0 rfl rfl hb53 ?_
          refine r_iload hC dX0_speedOf_86 7 rfl ?_
          refine x_iaload hC hk53 hn53 (by decide) rfl rfl dX0_speedOf_88 (by omega) (by omega) (fun x54_ e54 => ?_)
          refine r_iadd hC dX0_speedOf_89 (fun x55_ e55 => ?_)
          try have t55 : x55_.toInt = x52_.toInt + x54_.toInt := by rw [e55]; exact ti_add (by omega) (by omega)
          refine r_iload hC dX0_speedOf_90 0 rfl ?_
          refine r_isub hC dX0_speedOf_92 (fun x56_ e56 => ?_)
          try have t56 : x56_.toInt = x55_.toInt - x49_.toInt := by rw [e56]; exact ti_sub (by omega) (by omega)
          refine r_mmax hC mT_3_176 mT_3_11 mT_1_12 mT_3_12 (by decide) (Nat.le_of_ble_eq_true rfl) (Nat.zero_le _) (Nat.zero_le _) dX0_speedOf_93 (fun x57_ e57 t57a t57b t57c => ?_)
          refine r_bipush hC (v := (10)) dX0_speedOf_96 (by decide) (by decide) (fun x58_ e58 t58 => ?_)
          refine r_idiv hC dX0_speedOf_98 (ne_0 (by omega)) (fun x59_ e59 => ?_)
          exact r_iret hC hQ hlk hr rfl (by decide) (by decide) dX0_speedOf_99 ⟨_, rfl, rfl, trivial⟩
  · refine r_aload_n hC dX0_speedOf_13 1 rfl ?_
    obtain ⟨a60_, hb60, hk60, hn60⟩ := hs.row ka0 2 52 300 (by decide) (by decide)
    refine r_getr hC 2 (ci := 0) rfl u0_in (by decide) mT_2_30 dX0_speedOf_14 ka0 rfl rfl hb60 ?_
    refine r_iload hC dX0_speedOf_17 0 rfl ?_
    refine r_iconst hC (v := (1)) dX0_speedOf_19 (by decide) (by decide) (fun x61_ e61 t61 => ?_)
    refine r_isub hC dX0_speedOf_20 (fun x62_ e62 => ?_)
    try have t62 : x62_.toInt = x1_.toInt - x61_.toInt := by rw [e62]; exact ti_sub (by omega) (by omega)
    refine x_iaload hC hk60 hn60 (by decide) rfl rfl dX0_speedOf_21 (by omega) (by omega) (fun x63_ e63 => ?_)
    refine r_goto hC (tgt := 26) dX0_speedOf_22 (by decide) ?_
    refine r_istore hC (lv' := [(6, .int x63_), (5, .int x1_), (0, .ref a0), (1, .ref a1), (2, .ref a2), (3, .int x3), (4, .int x4)]) dX0_speedOf_26 (by decide) rfl ?_
    refine r_iconst hC (v := (0)) dX0_speedOf_28 (by decide) (by decide) (fun x64_ e64 t64 => ?_)
    refine r_aload_n hC dX0_speedOf_29 3 rfl ?_
    obtain ⟨a65_, hb65, hk65, hn65⟩ := hs.row ka1 3 56 5 (by decide) (by decide)
    refine r_getr hC 3 (ci := 1) rfl u1_in (by decide) mT_1_192 dX0_speedOf_30 ka1 rfl rfl hb65 ?_
    refine r_iload_n hC dX0_speedOf_33 5 rfl ?_
    refine x_iaload hC hk65 hn65 (by decide) rfl rfl dX0_speedOf_34 (by omega) (by omega) (fun x66_ e66 => ?_)
    refine r_iload hC dX0_speedOf_35 0 rfl ?_
    refine r_isub hC dX0_speedOf_37 (fun x67_ e67 => ?_)
    try have t67 : x67_.toInt = x66_.toInt - x63_.toInt := by rw [e67]; exact ti_sub (by omega) (by omega)
    refine r_mmax hC mT_3_176 mT_3_11 mT_1_12 mT_3_12 (by decide) (Nat.le_of_ble_eq_true rfl) (Nat.zero_le _) (Nat.zero_le _) dX0_speedOf_38 (fun x68_ e68 t68a t68b t68c => ?_)
    refine r_istore hC (lv' := [(7, .int x68_), (6, .int x63_), (5, .int x1_), (0, .ref a0), (1, .ref a1), (2, .ref a2), (3, .int x3), (4, .int x4)]) dX0_speedOf_41 (by decide) rfl ?_
    refine r_aload_n hC dX0_speedOf_43 5 rfl ?_
    refine r_geti hC 1 (ci := 4) rfl u4_in (by decide) mT_1_163 dX0_speedOf_44 ka2 rfl rfl (fun x69_ e69 => ?_)
    refine r_iconst hC (v := (4)) dX0_speedOf_47 (by decide) (by decide) (fun x70_ e70 t70 => ?_)
    refine r_icmp_ne hC (tgt := 75) dX0_speedOf_48 (by decide) (fun c71 => ?_) (fun c71 => ?_)
    · refine r_iconst hC (v := (0)) dX0_speedOf_75 (by decide) (by decide) (fun x72_ e72 t72 => ?_)
      refine r_aload_n hC dX0_speedOf_76 4 rfl ?_
      obtain ⟨a73_, hb73, hk73, hn73⟩ := hs.row ka1 2 55 5 (by decide) (by decide)
      refine r_getr hC 2 (ci := 1) rfl u1_in (by decide) mT_1_190 dX0_speedOf_77 ka1 rfl rfl hb73 ?_
      refine r_iload_n hC dX0_speedOf_80 6 rfl ?_
      refine x_iaload hC hk73 hn73 (by decide) rfl rfl dX0_speedOf_81 (by omega) (by omega) (fun x74_ e74 => ?_)
      refine r_aload_n hC dX0_speedOf_82 3 rfl ?_
      obtain ⟨a75_, hb75, hk75, hn75⟩ := hs.row ka0 4 54 60 (by decide) (by decide)
      refine r_getr hC 4 (ci := 0) rfl u0_in (by decide) mT_2_34 dX0_speedOf_83 ka0 rfl rfl hb75 ?_
      refine r_iload hC dX0_speedOf_86 7 rfl ?_
      refine x_iaload hC hk75 hn75 (by decide) rfl rfl dX0_speedOf_88 (by omega) (by omega) (fun x76_ e76 => ?_)
      refine r_iadd hC dX0_speedOf_89 (fun x77_ e77 => ?_)
      try have t77 : x77_.toInt = x74_.toInt + x76_.toInt := by rw [e77]; exact ti_add (by omega) (by omega)
      refine r_iload hC dX0_speedOf_90 0 rfl ?_
      refine r_isub hC dX0_speedOf_92 (fun x78_ e78 => ?_)
      try have t78 : x78_.toInt = x77_.toInt - x68_.toInt := by rw [e78]; exact ti_sub (by omega) (by omega)
      refine r_mmax hC mT_3_176 mT_3_11 mT_1_12 mT_3_12 (by decide) (Nat.le_of_ble_eq_true rfl) (Nat.zero_le _) (Nat.zero_le _) dX0_speedOf_93 (fun x79_ e79 t79a t79b t79c => ?_)
      refine r_bipush hC (v := (10)) dX0_speedOf_96 (by decide) (by decide) (fun x80_ e80 t80 => ?_)
      refine r_idiv hC dX0_speedOf_98 (ne_0 (by omega)) (fun x81_ e81 => ?_)
      exact r_iret hC hQ hlk hr rfl (by decide) (by decide) dX0_speedOf_99 ⟨_, rfl, rfl, trivial⟩
    · refine r_iload hC dX0_speedOf_51 7 rfl ?_
      refine r_if_le hC (tgt := 75) dX0_speedOf_53 (by decide) (fun c82 => ?_) (fun c82 => ?_)
      · refine r_iconst hC (v := (0)) dX0_speedOf_75 (by decide) (by decide) (fun x83_ e83 t83 => ?_)
        refine r_aload_n hC dX0_speedOf_76 4 rfl ?_
        obtain ⟨a84_, hb84, hk84, hn84⟩ := hs.row ka1 2 55 5 (by decide) (by decide)
        refine r_getr hC 2 (ci := 1) rfl u1_in (by decide) mT_1_190 dX0_speedOf_77 ka1 rfl rfl hb84 ?_
        refine r_iload_n hC dX0_speedOf_80 6 rfl ?_
        refine x_iaload hC hk84 hn84 (by decide) rfl rfl dX0_speedOf_81 (by omega) (by omega) (fun x85_ e85 => ?_)
        refine r_aload_n hC dX0_speedOf_82 3 rfl ?_
        obtain ⟨a86_, hb86, hk86, hn86⟩ := hs.row ka0 4 54 60 (by decide) (by decide)
        refine r_getr hC 4 (ci := 0) rfl u0_in (by decide) mT_2_34 dX0_speedOf_83 ka0 rfl rfl hb86 ?_
        refine r_iload hC dX0_speedOf_86 7 rfl ?_
        refine x_iaload hC hk86 hn86 (by decide) rfl rfl dX0_speedOf_88 (by omega) (by omega) (fun x87_ e87 => ?_)
        refine r_iadd hC dX0_speedOf_89 (fun x88_ e88 => ?_)
        try have t88 : x88_.toInt = x85_.toInt + x87_.toInt := by rw [e88]; exact ti_add (by omega) (by omega)
        refine r_iload hC dX0_speedOf_90 0 rfl ?_
        refine r_isub hC dX0_speedOf_92 (fun x89_ e89 => ?_)
        try have t89 : x89_.toInt = x88_.toInt - x68_.toInt := by rw [e89]; exact ti_sub (by omega) (by omega)
        refine r_mmax hC mT_3_176 mT_3_11 mT_1_12 mT_3_12 (by decide) (Nat.le_of_ble_eq_true rfl) (Nat.zero_le _) (Nat.zero_le _) dX0_speedOf_93 (fun x90_ e90 t90a t90b t90c => ?_)
        refine r_bipush hC (v := (10)) dX0_speedOf_96 (by decide) (by decide) (fun x91_ e91 t91 => ?_)
        refine r_idiv hC dX0_speedOf_98 (ne_0 (by omega)) (fun x92_ e92 => ?_)
        exact r_iret hC hQ hlk hr rfl (by decide) (by decide) dX0_speedOf_99 ⟨_, rfl, rfl, trivial⟩
      · refine r_aload_n hC dX0_speedOf_56 3 rfl ?_
        obtain ⟨a93_, hb93, hk93, hn93⟩ := hs.row ka0 0 50 300 (by decide) (by decide)
        refine r_getr hC 0 (ci := 0) rfl u0_in (by decide) mT_2_25 dX0_speedOf_57 ka0 rfl rfl hb93 ?_
        refine r_iload hC dX0_speedOf_60 2 rfl ?_
        refine r_iconst hC (v := (1)) dX0_speedOf_62 (by decide) (by decide) (fun x94_ e94 t94 => ?_)
        refine r_isub hC dX0_speedOf_63 (fun x95_ e95 => ?_)
        try have t95 : x95_.toInt = x1_.toInt - x94_.toInt := by rw [e95]; exact ti_sub (by omega) (by omega)
        refine x_iaload hC hk93 hn93 (by decide) rfl rfl dX0_speedOf_64 (by omega) (by omega) (fun x96_ e96 => ?_)
        refine r_aload_n hC dX0_speedOf_65 5 rfl ?_
        refine r_geti hC 3 (ci := 4) rfl u4_in (by decide) mT_1_169 dX0_speedOf_66 ka2 rfl rfl (fun x97_ e97 => ?_)
        refine r_icmp_lt hC (tgt := 75) dX0_speedOf_69 (by decide) (fun c98 => ?_) (fun c98 => ?_)
        · refine r_iconst hC (v := (0)) dX0_speedOf_75 (by decide) (by decide) (fun x99_ e99 t99 => ?_)
          refine r_aload_n hC dX0_speedOf_76 4 rfl ?_
          obtain ⟨a100_, hb100, hk100, hn100⟩ := hs.row ka1 2 55 5 (by decide) (by decide)
          refine r_getr hC 2 (ci := 1) rfl u1_in (by decide) mT_1_190 dX0_speedOf_77 ka1 rfl rfl hb100 ?_
          refine r_iload_n hC dX0_speedOf_80 6 rfl ?_
          refine x_iaload hC hk100 hn100 (by decide) rfl rfl dX0_speedOf_81 (by omega) (by omega) (fun x101_ e101 => ?_)
          refine r_aload_n hC dX0_speedOf_82 3 rfl ?_
          obtain ⟨a102_, hb102, hk102, hn102⟩ := hs.row ka0 4 54 60 (by decide) (by decide)
          refine r_getr hC 4 (ci := 0) rfl u0_in (by decide) mT_2_34 dX0_speedOf_83 ka0 rfl rfl hb102 ?_
          refine r_iload hC dX0_speedOf_86 7 rfl ?_
          refine x_iaload hC hk102 hn102 (by decide) rfl rfl dX0_speedOf_88 (by omega) (by omega) (fun x103_ e103 => ?_)
          refine r_iadd hC dX0_speedOf_89 (fun x104_ e104 => ?_)
          try have t104 : x104_.toInt = x101_.toInt + x103_.toInt := by rw [e104]; exact ti_add (by omega) (by omega)
          refine r_iload hC dX0_speedOf_90 0 rfl ?_
          refine r_isub hC dX0_speedOf_92 (fun x105_ e105 => ?_)
          try have t105 : x105_.toInt = x104_.toInt - x68_.toInt := by rw [e105]; exact ti_sub (by omega) (by omega)
          refine r_mmax hC mT_3_176 mT_3_11 mT_1_12 mT_3_12 (by decide) (Nat.le_of_ble_eq_true rfl) (Nat.zero_le _) (Nat.zero_le _) dX0_speedOf_93 (fun x106_ e106 t106a t106b t106c => ?_)
          refine r_bipush hC (v := (10)) dX0_speedOf_96 (by decide) (by decide) (fun x107_ e107 t107 => ?_)
          refine r_idiv hC dX0_speedOf_98 (ne_0 (by omega)) (fun x108_ e108 => ?_)
          exact r_iret hC hQ hlk hr rfl (by decide) (by decide) dX0_speedOf_99 ⟨_, rfl, rfl, trivial⟩
        · refine r_iconst hC (v := (0)) dX0_speedOf_72 (by decide) (by decide) (fun x109_ e109 t109 => ?_)
          refine r_istore hC (lv' := [(7, .int x109_), (6, .int x63_), (5, .int x1_), (0, .ref a0), (1, .ref a1), (2, .ref a2), (3, .int x3), (4, .int x4)]) dX0_speedOf_73 (by decide) rfl ?_
          refine r_iconst hC (v := (0)) dX0_speedOf_75 (by decide) (by decide) (fun x110_ e110 t110 => ?_)
          refine r_aload_n hC dX0_speedOf_76 4 rfl ?_
          obtain ⟨a111_, hb111, hk111, hn111⟩ := hs.row ka1 2 55 5 (by decide) (by decide)
          refine r_getr hC 2 (ci := 1) rfl u1_in (by decide) mT_1_190 dX0_speedOf_77 ka1 rfl rfl hb111 ?_
          refine r_iload_n hC dX0_speedOf_80 6 rfl ?_
          refine x_iaload hC hk111 hn111 (by decide) rfl rfl dX0_speedOf_81 (by omega) (by omega) (fun x112_ e112 => ?_)
          refine r_aload_n hC dX0_speedOf_82 3 rfl ?_
          obtain ⟨a113_, hb113, hk113, hn113⟩ := hs.row ka0 4 54 60 (by decide) (by decide)
          refine r_getr hC 4 (ci := 0) rfl u0_in (by decide) mT_2_34 dX0_speedOf_83 ka0 rfl rfl hb113 ?_
          refine r_iload hC dX0_speedOf_86 7 rfl ?_
          refine x_iaload hC hk113 hn113 (by decide) rfl rfl dX0_speedOf_88 (by omega) (by omega) (fun x114_ e114 => ?_)
          refine r_iadd hC dX0_speedOf_89 (fun x115_ e115 => ?_)
          try have t115 : x115_.toInt = x112_.toInt + x114_.toInt := by rw [e115]; exact ti_add (by omega) (by omega)
          refine r_iload hC dX0_speedOf_90 0 rfl ?_
          refine r_isub hC dX0_speedOf_92 (fun x116_ e116 => ?_)
          try have t116 : x116_.toInt = x115_.toInt - x109_.toInt := by rw [e116]; exact ti_sub (by omega) (by omega)
          refine r_mmax hC mT_3_176 mT_3_11 mT_1_12 mT_3_12 (by decide) (Nat.le_of_ble_eq_true rfl) (Nat.zero_le _) (Nat.zero_le _) dX0_speedOf_93 (fun x117_ e117 t117a t117b t117c => ?_)
          refine r_bipush hC (v := (10)) dX0_speedOf_96 (by decide) (by decide) (fun x118_ e118 t118 => ?_)
          refine r_idiv hC dX0_speedOf_98 (ne_0 (by omega)) (fun x119_ e119 => ?_)
          exact r_iret hC hQ hlk hr rfl (by decide) (by decide) dX0_speedOf_99 ⟨_, rfl, rfl, trivial⟩
set_option maxHeartbeats 4000000 in
set_option maxRecDepth 100000 in
theorem c_X0_creepBy (g : GG) (l : Launch) (K len : Nat → Nat) (I : Nat → Nat → Int32) (J : Nat → Nat → Int64) (R : Nat → Nat → Option Nat) (hs : Sf K len I R) (a0 : Nat) (ka0 : K a0 = 1) (x1 : Int32) (a2 : Nat) (ka2 : K a2 = 5) (x3 : Int32) (x4 : Int32) (p0 : 0 ≤ x3.toInt) (p1 : x3.toInt ≤ 4) (p2 : 0 ≤ x4.toInt) (p3 : x4.toInt ≤ 59) : Ct g l yX0_creepBy cX0_creepBy 7 (Option.none : Option Jvm.ClassFile.FieldType) rmX0_creepBy [.ref a0, .int x1, .ref a2, .int x3, .int x4] (K, len, I, J, R) (pV1 (K, len, I, J, R) (fun I' => Sf K len I' R ∧ Fr K [(50, 999), (51, 999), (52, 999)] I I')) := by
  refine Ct_intro (by decide +kernel) (Nat.le_of_ble_eq_true rfl) (fun X hC hL hKK hNm hr hlk hQ => ?_)
  subst hL
  have hC : Cx g X cX0_creepBy "HillTap$Course" 7 rmX0_creepBy := hC
  show P g X 7 0 [(0, .ref a0), (1, .int x1), (2, .ref a2), (3, .int x3), (4, .int x4)] [] 0 0 (K, len, I, J, R)
  have hF : Fr K [(50, 999), (51, 999), (52, 999)] I I := Fr.refl
  have b_x1 := ti_rng x1
  have b_x3 := ti_rng x3
  have b_x4 := ti_rng x4
  refine r_iload_n hC dX0_creepBy_0 3 rfl ?_
  refine r_iload hC dX0_creepBy_1 4 rfl ?_
  refine r_callSN hC (As := [.int x3, .int x4]) (rest := []) (c_X8_row g (xL X) K len I J R hs x3 x4 (by omega) (by omega) (by omega) (by omega)) mT_3_192 mT_1_1 nM_5 mT_3_191 okX8_row ⟨by decide, by decide⟩ rfl rfl (Nat.le_of_ble_eq_true rfl) ⟨by decide, by decide⟩ dX0_creepBy_3 (aI0 (F := fun st M => P g X 7 6 [(0, .ref a0), (1, .int x1), (2, .ref a2), (3, .int x3), (4, .int x4)] st _ _ M) (M := (K, len, I, J, R)) fun x1_ h1 => ?_)
  have k1_0 := h1
  show P g X 7 6 [(0, .ref a0), (1, .int x1), (2, .ref a2), (3, .int x3), (4, .int x4)] [.int x1_] _ _ (K, len, I, J, R)
  refine r_istore hC (lv' := [(5, .int x1_), (0, .ref a0), (1, .int x1), (2, .ref a2), (3, .int x3), (4, .int x4)]) dX0_creepBy_6 (by decide) rfl ?_
  refine r_aload_n hC dX0_creepBy_8 1 rfl ?_
  obtain ⟨a2_, hb2, hk2, hn2⟩ := hs.row ka0 0 50 300 (by decide) (by decide)
  refine r_getr hC 0 (ci := 0) rfl u0_in (by decide) mT_2_25 dX0_creepBy_9 ka0 rfl rfl hb2 ?_
  refine r_iload hC dX0_creepBy_12 0 rfl ?_
  refine r_iload_n hC dX0_creepBy_14 2 rfl ?_
  refine x_iastore hC hk2 hn2 (by decide) rfl rfl dX0_creepBy_15 (by omega) (by omega) (fun I3 eI3 => ?_)
  have hs3 := hs.put0 eI3 hk2 (rng_arr (by decide) _) rfl (xF_arr (by decide) _) (by decide)
  have hF3 := hF.put eI3 hk2 (inS_arr rfl _)
  refine r_aload_n hC dX0_creepBy_16 1 rfl ?_
  obtain ⟨a4_, hb4, hk4, hn4⟩ := hs3.row ka0 1 51 300 (by decide) (by decide)
  refine r_getr hC 1 (ci := 0) rfl u0_in (by decide) mT_2_27 dX0_creepBy_17 ka0 rfl rfl hb4 ?_
  refine r_iload hC dX0_creepBy_20 0 rfl ?_
  refine r_iload hC dX0_creepBy_22 5 rfl ?_
  refine r_if_le hC (tgt := 39) dX0_creepBy_24 (by decide) (fun c5 => ?_) (fun c5 => ?_)
  · refine r_iconst hC (v := (0)) dX0_creepBy_39 (by decide) (by decide) (fun x6_ e6 t6 => ?_)
    refine r_iload_n hC dX0_creepBy_40 2 rfl ?_
    refine r_iadd hC dX0_creepBy_41 (fun x7_ e7 => ?_)
    try have t7 : x7_.toInt = x6_.toInt + x1.toInt := by rw [e7]; exact ti_add (by omega) (by omega)
    refine x_iastore hC hk4 hn4 (by decide) rfl rfl dX0_creepBy_42 (by omega) (by omega) (fun I8 eI8 => ?_)
    have hs8 := hs3.put0 eI8 hk4 (rng_arr (by decide) _) rfl (xF_arr (by decide) _) (by decide)
    have hF8 := hF3.put eI8 hk4 (inS_arr rfl _)
    refine r_aload_n hC dX0_creepBy_43 3 rfl ?_
    refine r_geti hC 1 (ci := 4) rfl u4_in (by decide) mT_1_163 dX0_creepBy_44 ka2 rfl rfl (fun x9_ e9 => ?_)
    refine r_iconst hC (v := (3)) dX0_creepBy_47 (by decide) (by decide) (fun x10_ e10 t10 => ?_)
    refine r_icmp_ne hC (tgt := 69) dX0_creepBy_48 (by decide) (fun c11 => ?_) (fun c11 => ?_)
    · refine r_iconst hC (v := (0)) dX0_creepBy_69 (by decide) (by decide) (fun x12_ e12 t12 => ?_)
      refine r_istore hC (lv' := [(6, .int x12_), (5, .int x1_), (0, .ref a0), (1, .int x1), (2, .ref a2), (3, .int x3), (4, .int x4)]) dX0_creepBy_70 (by decide) rfl ?_
      refine r_aload_n hC dX0_creepBy_72 2 rfl ?_
      obtain ⟨a13_, hb13, hk13, hn13⟩ := hs8.row ka0 2 52 300 (by decide) (by decide)
      refine r_getr hC 2 (ci := 0) rfl u0_in (by decide) mT_2_30 dX0_creepBy_73 ka0 rfl rfl hb13 ?_
      refine r_iload hC dX0_creepBy_76 1 rfl ?_
      refine r_iload hC dX0_creepBy_78 6 rfl ?_
      refine r_if_le hC (tgt := 95) dX0_creepBy_80 (by decide) (fun c14 => ?_) (fun c14 => ?_)
      · refine r_iconst hC (v := (0)) dX0_creepBy_95 (by decide) (by decide) (fun x15_ e15 t15 => ?_)
        refine r_iload hC dX0_creepBy_96 0 rfl ?_
        refine r_if_eq hC (tgt := 105) dX0_creepBy_98 (by decide) (fun c16 => ?_) (fun c16 => ?_)
        rotate_left
        · exfalso; omega
        refine r_iconst hC (v := (0)) dX0_creepBy_105 (by decide) (by decide) (fun x17_ e17 t17 => ?_)
        refine r_iadd hC dX0_creepBy_106 (fun x18_ e18 => ?_)
        try have t18 : x18_.toInt = x15_.toInt + x17_.toInt := by rw [e18]; exact ti_add (by omega) (by omega)
        refine x_iastore hC hk13 hn13 (by decide) rfl rfl dX0_creepBy_107 (by omega) (by omega) (fun I19 eI19 => ?_)
        have hs19 := hs8.put0 eI19 hk13 (rng_arr (by decide) _) rfl (xF_arr (by decide) _) (by decide)
        have hF19 := hF8.put eI19 hk13 (inS_arr rfl _)
        exact r_vret hC hQ hlk hr (by decide) (by decide) dX0_creepBy_108 ⟨_, rfl, rfl, ⟨hs19, hF19⟩⟩
      · refine r_aload_n hC dX0_creepBy_83 2 rfl ?_
        refine r_getr hC 2 (ci := 0) rfl u0_in (by decide) mT_2_30 dX0_creepBy_84 ka0 rfl rfl hb13 ?_
        refine r_iload hC dX0_creepBy_87 1 rfl ?_
        refine r_iconst hC (v := (1)) dX0_creepBy_89 (by decide) (by decide) (fun x20_ e20 t20 => ?_)
        refine r_isub hC dX0_creepBy_90 (fun x21_ e21 => ?_)
        try have t21 : x21_.toInt = x1_.toInt - x20_.toInt := by rw [e21]; exact ti_sub (by omega) (by omega)
        refine x_iaload hC hk13 hn13 (by decide) rfl rfl dX0_creepBy_91 (by omega) (by omega) (fun x22_ e22 => ?_)
        refine r_goto hC (tgt := 96) dX0_creepBy_92 (by decide) ?_
        refine r_iload hC dX0_creepBy_96 0 rfl ?_
        refine r_if_eq hC (tgt := 105) dX0_creepBy_98 (by decide) (fun c23 => ?_) (fun c23 => ?_)
        rotate_left
        · exfalso; omega
        refine r_iconst hC (v := (0)) dX0_creepBy_105 (by decide) (by decide) (fun x24_ e24 t24 => ?_)
        refine r_iadd hC dX0_creepBy_106 (fun x25_ e25 => ?_)
        try have t25 : x25_.toInt = x22_.toInt + x24_.toInt := by rw [e25]; exact ti_add (by omega) (by omega)
        refine x_iastore hC hk13 hn13 (by decide) rfl rfl dX0_creepBy_107 (by omega) (by omega) (fun I26 eI26 => ?_)
        have hs26 := hs8.put0 eI26 hk13 (rng_arr (by decide) _) rfl (xF_arr (by decide) _) (by decide)
        have hF26 := hF8.put eI26 hk13 (inS_arr rfl _)
        exact r_vret hC hQ hlk hr (by decide) (by decide) dX0_creepBy_108 ⟨_, rfl, rfl, ⟨hs26, hF26⟩⟩
    · refine r_aload_n hC dX0_creepBy_51 1 rfl ?_
      refine r_getr hC 1 (ci := 0) rfl u0_in (by decide) mT_2_27 dX0_creepBy_52 ka0 rfl rfl hb4 ?_
      refine r_iload hC dX0_creepBy_55 0 rfl ?_
      refine x_iaload hC hk4 hn4 (by decide) rfl rfl dX0_creepBy_57 (by omega) (by omega) (fun x27_ e27 => ?_)
      refine r_aload_n hC dX0_creepBy_58 3 rfl ?_
      refine r_geti hC 3 (ci := 4) rfl u4_in (by decide) mT_1_169 dX0_creepBy_59 ka2 rfl rfl (fun x28_ e28 => ?_)
      refine r_icmp_lt hC (tgt := 69) dX0_creepBy_62 (by decide) (fun c29 => ?_) (fun c29 => ?_)
      · refine r_iconst hC (v := (0)) dX0_creepBy_69 (by decide) (by decide) (fun x30_ e30 t30 => ?_)
        refine r_istore hC (lv' := [(6, .int x30_), (5, .int x1_), (0, .ref a0), (1, .int x1), (2, .ref a2), (3, .int x3), (4, .int x4)]) dX0_creepBy_70 (by decide) rfl ?_
        refine r_aload_n hC dX0_creepBy_72 2 rfl ?_
        obtain ⟨a31_, hb31, hk31, hn31⟩ := hs8.row ka0 2 52 300 (by decide) (by decide)
        refine r_getr hC 2 (ci := 0) rfl u0_in (by decide) mT_2_30 dX0_creepBy_73 ka0 rfl rfl hb31 ?_
        refine r_iload hC dX0_creepBy_76 1 rfl ?_
        refine r_iload hC dX0_creepBy_78 6 rfl ?_
        refine r_if_le hC (tgt := 95) dX0_creepBy_80 (by decide) (fun c32 => ?_) (fun c32 => ?_)
        · refine r_iconst hC (v := (0)) dX0_creepBy_95 (by decide) (by decide) (fun x33_ e33 t33 => ?_)
          refine r_iload hC dX0_creepBy_96 0 rfl ?_
          refine r_if_eq hC (tgt := 105) dX0_creepBy_98 (by decide) (fun c34 => ?_) (fun c34 => ?_)
          rotate_left
          · exfalso; omega
          refine r_iconst hC (v := (0)) dX0_creepBy_105 (by decide) (by decide) (fun x35_ e35 t35 => ?_)
          refine r_iadd hC dX0_creepBy_106 (fun x36_ e36 => ?_)
          try have t36 : x36_.toInt = x33_.toInt + x35_.toInt := by rw [e36]; exact ti_add (by omega) (by omega)
          refine x_iastore hC hk31 hn31 (by decide) rfl rfl dX0_creepBy_107 (by omega) (by omega) (fun I37 eI37 => ?_)
          have hs37 := hs8.put0 eI37 hk31 (rng_arr (by decide) _) rfl (xF_arr (by decide) _) (by decide)
          have hF37 := hF8.put eI37 hk31 (inS_arr rfl _)
          exact r_vret hC hQ hlk hr (by decide) (by decide) dX0_creepBy_108 ⟨_, rfl, rfl, ⟨hs37, hF37⟩⟩
        · refine r_aload_n hC dX0_creepBy_83 2 rfl ?_
          refine r_getr hC 2 (ci := 0) rfl u0_in (by decide) mT_2_30 dX0_creepBy_84 ka0 rfl rfl hb31 ?_
          refine r_iload hC dX0_creepBy_87 1 rfl ?_
          refine r_iconst hC (v := (1)) dX0_creepBy_89 (by decide) (by decide) (fun x38_ e38 t38 => ?_)
          refine r_isub hC dX0_creepBy_90 (fun x39_ e39 => ?_)
          try have t39 : x39_.toInt = x1_.toInt - x38_.toInt := by rw [e39]; exact ti_sub (by omega) (by omega)
          refine x_iaload hC hk31 hn31 (by decide) rfl rfl dX0_creepBy_91 (by omega) (by omega) (fun x40_ e40 => ?_)
          refine r_goto hC (tgt := 96) dX0_creepBy_92 (by decide) ?_
          refine r_iload hC dX0_creepBy_96 0 rfl ?_
          refine r_if_eq hC (tgt := 105) dX0_creepBy_98 (by decide) (fun c41 => ?_) (fun c41 => ?_)
          rotate_left
          · exfalso; omega
          refine r_iconst hC (v := (0)) dX0_creepBy_105 (by decide) (by decide) (fun x42_ e42 t42 => ?_)
          refine r_iadd hC dX0_creepBy_106 (fun x43_ e43 => ?_)
          try have t43 : x43_.toInt = x40_.toInt + x42_.toInt := by rw [e43]; exact ti_add (by omega) (by omega)
          refine x_iastore hC hk31 hn31 (by decide) rfl rfl dX0_creepBy_107 (by omega) (by omega) (fun I44 eI44 => ?_)
          have hs44 := hs8.put0 eI44 hk31 (rng_arr (by decide) _) rfl (xF_arr (by decide) _) (by decide)
          have hF44 := hF8.put eI44 hk31 (inS_arr rfl _)
          exact r_vret hC hQ hlk hr (by decide) (by decide) dX0_creepBy_108 ⟨_, rfl, rfl, ⟨hs44, hF44⟩⟩
      · refine r_iconst hC (v := (1)) dX0_creepBy_65 (by decide) (by decide) (fun x45_ e45 t45 => ?_)
        refine r_goto hC (tgt := 70) dX0_creepBy_66 (by decide) ?_
        refine r_istore hC (lv' := [(6, .int x45_), (5, .int x1_), (0, .ref a0), (1, .int x1), (2, .ref a2), (3, .int x3), (4, .int x4)]) dX0_creepBy_70 (by decide) rfl ?_
        refine r_aload_n hC dX0_creepBy_72 2 rfl ?_
        obtain ⟨a46_, hb46, hk46, hn46⟩ := hs8.row ka0 2 52 300 (by decide) (by decide)
        refine r_getr hC 2 (ci := 0) rfl u0_in (by decide) mT_2_30 dX0_creepBy_73 ka0 rfl rfl hb46 ?_
        refine r_iload hC dX0_creepBy_76 1 rfl ?_
        refine r_iload hC dX0_creepBy_78 6 rfl ?_
        refine r_if_le hC (tgt := 95) dX0_creepBy_80 (by decide) (fun c47 => ?_) (fun c47 => ?_)
        · refine r_iconst hC (v := (0)) dX0_creepBy_95 (by decide) (by decide) (fun x48_ e48 t48 => ?_)
          refine r_iload hC dX0_creepBy_96 0 rfl ?_
          refine r_if_eq hC (tgt := 105) dX0_creepBy_98 (by decide) (fun c49 => ?_) (fun c49 => ?_)
          · exfalso; omega
          refine r_iload_n hC dX0_creepBy_101 3 rfl ?_
          refine r_goto hC (tgt := 106) dX0_creepBy_102 (by decide) ?_
          refine r_iadd hC dX0_creepBy_106 (fun x50_ e50 => ?_)
          try have t50 : x50_.toInt = x48_.toInt + x1.toInt := by rw [e50]; exact ti_add (by omega) (by omega)
          refine x_iastore hC hk46 hn46 (by decide) rfl rfl dX0_creepBy_107 (by omega) (by omega) (fun I51 eI51 => ?_)
          have hs51 := hs8.put0 eI51 hk46 (rng_arr (by decide) _) rfl (xF_arr (by decide) _) (by decide)
          have hF51 := hF8.put eI51 hk46 (inS_arr rfl _)
          exact r_vret hC hQ hlk hr (by decide) (by decide) dX0_creepBy_108 ⟨_, rfl, rfl, ⟨hs51, hF51⟩⟩
        · refine r_aload_n hC dX0_creepBy_83 2 rfl ?_
          refine r_getr hC 2 (ci := 0) rfl u0_in (by decide) mT_2_30 dX0_creepBy_84 ka0 rfl rfl hb46 ?_
          refine r_iload hC dX0_creepBy_87 1 rfl ?_
          refine r_iconst hC (v := (1)) dX0_creepBy_89 (by decide) (by decide) (fun x52_ e52 t52 => ?_)
          refine r_isub hC dX0_creepBy_90 (fun x53_ e53 => ?_)
          try have t53 : x53_.toInt = x1_.toInt - x52_.toInt := by rw [e53]; exact ti_sub (by omega) (by omega)
          refine x_iaload hC hk46 hn46 (by decide) rfl rfl dX0_creepBy_91 (by omega) (by omega) (fun x54_ e54 => ?_)
          refine r_goto hC (tgt := 96) dX0_creepBy_92 (by decide) ?_
          refine r_iload hC dX0_creepBy_96 0 rfl ?_
          refine r_if_eq hC (tgt := 105) dX0_creepBy_98 (by decide) (fun c55 => ?_) (fun c55 => ?_)
          · exfalso; omega
          refine r_iload_n hC dX0_creepBy_101 3 rfl ?_
          refine r_goto hC (tgt := 106) dX0_creepBy_102 (by decide) ?_
          refine r_iadd hC dX0_creepBy_106 (fun x56_ e56 => ?_)
          try have t56 : x56_.toInt = x54_.toInt + x1.toInt := by rw [e56]; exact ti_add (by omega) (by omega)
          refine x_iastore hC hk46 hn46 (by decide) rfl rfl dX0_creepBy_107 (by omega) (by omega) (fun I57 eI57 => ?_)
          have hs57 := hs8.put0 eI57 hk46 (rng_arr (by decide) _) rfl (xF_arr (by decide) _) (by decide)
          have hF57 := hF8.put eI57 hk46 (inS_arr rfl _)
          exact r_vret hC hQ hlk hr (by decide) (by decide) dX0_creepBy_108 ⟨_, rfl, rfl, ⟨hs57, hF57⟩⟩
  · refine r_aload_n hC dX0_creepBy_27 1 rfl ?_
    refine r_getr hC 1 (ci := 0) rfl u0_in (by decide) mT_2_27 dX0_creepBy_28 ka0 rfl rfl hb4 ?_
    refine r_iload hC dX0_creepBy_31 0 rfl ?_
    refine r_iconst hC (v := (1)) dX0_creepBy_33 (by decide) (by decide) (fun x58_ e58 t58 => ?_)
    refine r_isub hC dX0_creepBy_34 (fun x59_ e59 => ?_)
    try have t59 : x59_.toInt = x1_.toInt - x58_.toInt := by rw [e59]; exact ti_sub (by omega) (by omega)
    refine x_iaload hC hk4 hn4 (by decide) rfl rfl dX0_creepBy_35 (by omega) (by omega) (fun x60_ e60 => ?_)
    refine r_goto hC (tgt := 40) dX0_creepBy_36 (by decide) ?_
    refine r_iload_n hC dX0_creepBy_40 2 rfl ?_
    refine r_iadd hC dX0_creepBy_41 (fun x61_ e61 => ?_)
    try have t61 : x61_.toInt = x60_.toInt + x1.toInt := by rw [e61]; exact ti_add (by omega) (by omega)
    refine x_iastore hC hk4 hn4 (by decide) rfl rfl dX0_creepBy_42 (by omega) (by omega) (fun I62 eI62 => ?_)
    have hs62 := hs3.put0 eI62 hk4 (rng_arr (by decide) _) rfl (xF_arr (by decide) _) (by decide)
    have hF62 := hF3.put eI62 hk4 (inS_arr rfl _)
    refine r_aload_n hC dX0_creepBy_43 3 rfl ?_
    refine r_geti hC 1 (ci := 4) rfl u4_in (by decide) mT_1_163 dX0_creepBy_44 ka2 rfl rfl (fun x63_ e63 => ?_)
    refine r_iconst hC (v := (3)) dX0_creepBy_47 (by decide) (by decide) (fun x64_ e64 t64 => ?_)
    refine r_icmp_ne hC (tgt := 69) dX0_creepBy_48 (by decide) (fun c65 => ?_) (fun c65 => ?_)
    · refine r_iconst hC (v := (0)) dX0_creepBy_69 (by decide) (by decide) (fun x66_ e66 t66 => ?_)
      refine r_istore hC (lv' := [(6, .int x66_), (5, .int x1_), (0, .ref a0), (1, .int x1), (2, .ref a2), (3, .int x3), (4, .int x4)]) dX0_creepBy_70 (by decide) rfl ?_
      refine r_aload_n hC dX0_creepBy_72 2 rfl ?_
      obtain ⟨a67_, hb67, hk67, hn67⟩ := hs62.row ka0 2 52 300 (by decide) (by decide)
      refine r_getr hC 2 (ci := 0) rfl u0_in (by decide) mT_2_30 dX0_creepBy_73 ka0 rfl rfl hb67 ?_
      refine r_iload hC dX0_creepBy_76 1 rfl ?_
      refine r_iload hC dX0_creepBy_78 6 rfl ?_
      refine r_if_le hC (tgt := 95) dX0_creepBy_80 (by decide) (fun c68 => ?_) (fun c68 => ?_)
      · refine r_iconst hC (v := (0)) dX0_creepBy_95 (by decide) (by decide) (fun x69_ e69 t69 => ?_)
        refine r_iload hC dX0_creepBy_96 0 rfl ?_
        refine r_if_eq hC (tgt := 105) dX0_creepBy_98 (by decide) (fun c70 => ?_) (fun c70 => ?_)
        rotate_left
        · exfalso; omega
        refine r_iconst hC (v := (0)) dX0_creepBy_105 (by decide) (by decide) (fun x71_ e71 t71 => ?_)
        refine r_iadd hC dX0_creepBy_106 (fun x72_ e72 => ?_)
        try have t72 : x72_.toInt = x69_.toInt + x71_.toInt := by rw [e72]; exact ti_add (by omega) (by omega)
        refine x_iastore hC hk67 hn67 (by decide) rfl rfl dX0_creepBy_107 (by omega) (by omega) (fun I73 eI73 => ?_)
        have hs73 := hs62.put0 eI73 hk67 (rng_arr (by decide) _) rfl (xF_arr (by decide) _) (by decide)
        have hF73 := hF62.put eI73 hk67 (inS_arr rfl _)
        exact r_vret hC hQ hlk hr (by decide) (by decide) dX0_creepBy_108 ⟨_, rfl, rfl, ⟨hs73, hF73⟩⟩
      · refine r_aload_n hC dX0_creepBy_83 2 rfl ?_
        refine r_getr hC 2 (ci := 0) rfl u0_in (by decide) mT_2_30 dX0_creepBy_84 ka0 rfl rfl hb67 ?_
        refine r_iload hC dX0_creepBy_87 1 rfl ?_
        refine r_iconst hC (v := (1)) dX0_creepBy_89 (by decide) (by decide) (fun x74_ e74 t74 => ?_)
        refine r_isub hC dX0_creepBy_90 (fun x75_ e75 => ?_)
        try have t75 : x75_.toInt = x1_.toInt - x74_.toInt := by rw [e75]; exact ti_sub (by omega) (by omega)
        refine x_iaload hC hk67 hn67 (by decide) rfl rfl dX0_creepBy_91 (by omega) (by omega) (fun x76_ e76 => ?_)
        refine r_goto hC (tgt := 96) dX0_creepBy_92 (by decide) ?_
        refine r_iload hC dX0_creepBy_96 0 rfl ?_
        refine r_if_eq hC (tgt := 105) dX0_creepBy_98 (by decide) (fun c77 => ?_) (fun c77 => ?_)
        rotate_left
        · exfalso; omega
        refine r_iconst hC (v := (0)) dX0_creepBy_105 (by decide) (by decide) (fun x78_ e78 t78 => ?_)
        refine r_iadd hC dX0_creepBy_106 (fun x79_ e79 => ?_)
        try have t79 : x79_.toInt = x76_.toInt + x78_.toInt := by rw [e79]; exact ti_add (by omega) (by omega)
        refine x_iastore hC hk67 hn67 (by decide) rfl rfl dX0_creepBy_107 (by omega) (by omega) (fun I80 eI80 => ?_)
        have hs80 := hs62.put0 eI80 hk67 (rng_arr (by decide) _) rfl (xF_arr (by decide) _) (by decide)
        have hF80 := hF62.put eI80 hk67 (inS_arr rfl _)
        exact r_vret hC hQ hlk hr (by decide) (by decide) dX0_creepBy_108 ⟨_, rfl, rfl, ⟨hs80, hF80⟩⟩
    · refine r_aload_n hC dX0_creepBy_51 1 rfl ?_
      refine r_getr hC 1 (ci := 0) rfl u0_in (by decide) mT_2_27 dX0_creepBy_52 ka0 rfl rfl hb4 ?_
      refine r_iload hC dX0_creepBy_55 0 rfl ?_
      refine x_iaload hC hk4 hn4 (by decide) rfl rfl dX0_creepBy_57 (by omega) (by omega) (fun x81_ e81 => ?_)
      refine r_aload_n hC dX0_creepBy_58 3 rfl ?_
      refine r_geti hC 3 (ci := 4) rfl u4_in (by decide) mT_1_169 dX0_creepBy_59 ka2 rfl rfl (fun x82_ e82 => ?_)
      refine r_icmp_lt hC (tgt := 69) dX0_creepBy_62 (by decide) (fun c83 => ?_) (fun c83 => ?_)
      · refine r_iconst hC (v := (0)) dX0_creepBy_69 (by decide) (by decide) (fun x84_ e84 t84 => ?_)
        refine r_istore hC (lv' := [(6, .int x84_), (5, .int x1_), (0, .ref a0), (1, .int x1), (2, .ref a2), (3, .int x3), (4, .int x4)]) dX0_creepBy_70 (by decide) rfl ?_
        refine r_aload_n hC dX0_creepBy_72 2 rfl ?_
        obtain ⟨a85_, hb85, hk85, hn85⟩ := hs62.row ka0 2 52 300 (by decide) (by decide)
        refine r_getr hC 2 (ci := 0) rfl u0_in (by decide) mT_2_30 dX0_creepBy_73 ka0 rfl rfl hb85 ?_
        refine r_iload hC dX0_creepBy_76 1 rfl ?_
        refine r_iload hC dX0_creepBy_78 6 rfl ?_
        refine r_if_le hC (tgt := 95) dX0_creepBy_80 (by decide) (fun c86 => ?_) (fun c86 => ?_)
        · refine r_iconst hC (v := (0)) dX0_creepBy_95 (by decide) (by decide) (fun x87_ e87 t87 => ?_)
          refine r_iload hC dX0_creepBy_96 0 rfl ?_
          refine r_if_eq hC (tgt := 105) dX0_creepBy_98 (by decide) (fun c88 => ?_) (fun c88 => ?_)
          rotate_left
          · exfalso; omega
          refine r_iconst hC (v := (0)) dX0_creepBy_105 (by decide) (by decide) (fun x89_ e89 t89 => ?_)
          refine r_iadd hC dX0_creepBy_106 (fun x90_ e90 => ?_)
          try have t90 : x90_.toInt = x87_.toInt + x89_.toInt := by rw [e90]; exact ti_add (by omega) (by omega)
          refine x_iastore hC hk85 hn85 (by decide) rfl rfl dX0_creepBy_107 (by omega) (by omega) (fun I91 eI91 => ?_)
          have hs91 := hs62.put0 eI91 hk85 (rng_arr (by decide) _) rfl (xF_arr (by decide) _) (by decide)
          have hF91 := hF62.put eI91 hk85 (inS_arr rfl _)
          exact r_vret hC hQ hlk hr (by decide) (by decide) dX0_creepBy_108 ⟨_, rfl, rfl, ⟨hs91, hF91⟩⟩
        · refine r_aload_n hC dX0_creepBy_83 2 rfl ?_
          refine r_getr hC 2 (ci := 0) rfl u0_in (by decide) mT_2_30 dX0_creepBy_84 ka0 rfl rfl hb85 ?_
          refine r_iload hC dX0_creepBy_87 1 rfl ?_
          refine r_iconst hC (v := (1)) dX0_creepBy_89 (by decide) (by decide) (fun x92_ e92 t92 => ?_)
          refine r_isub hC dX0_creepBy_90 (fun x93_ e93 => ?_)
          try have t93 : x93_.toInt = x1_.toInt - x92_.toInt := by rw [e93]; exact ti_sub (by omega) (by omega)
          refine x_iaload hC hk85 hn85 (by decide) rfl rfl dX0_creepBy_91 (by omega) (by omega) (fun x94_ e94 => ?_)
          refine r_goto hC (tgt := 96) dX0_creepBy_92 (by decide) ?_
          refine r_iload hC dX0_creepBy_96 0 rfl ?_
          refine r_if_eq hC (tgt := 105) dX0_creepBy_98 (by decide) (fun c95 => ?_) (fun c95 => ?_)
          rotate_left
          · exfalso; omega
          refine r_iconst hC (v := (0)) dX0_creepBy_105 (by decide) (by decide) (fun x96_ e96 t96 => ?_)
          refine r_iadd hC dX0_creepBy_106 (fun x97_ e97 => ?_)
          try have t97 : x97_.toInt = x94_.toInt + x96_.toInt := by rw [e97]; exact ti_add (by omega) (by omega)
          refine x_iastore hC hk85 hn85 (by decide) rfl rfl dX0_creepBy_107 (by omega) (by omega) (fun I98 eI98 => ?_)
          have hs98 := hs62.put0 eI98 hk85 (rng_arr (by decide) _) rfl (xF_arr (by decide) _) (by decide)
          have hF98 := hF62.put eI98 hk85 (inS_arr rfl _)
          exact r_vret hC hQ hlk hr (by decide) (by decide) dX0_creepBy_108 ⟨_, rfl, rfl, ⟨hs98, hF98⟩⟩
      · refine r_iconst hC (v := (1)) dX0_creepBy_65 (by decide) (by decide) (fun x99_ e99 t99 => ?_)
        refine r_goto hC (tgt := 70) dX0_creepBy_66 (by decide) ?_
        refine r_istore hC (lv' := [(6, .int x99_), (5, .int x1_), (0, .ref a0), (1, .int x1), (2, .ref a2), (3, .int x3), (4, .int x4)]) dX0_creepBy_70 (by decide) rfl ?_
        refine r_aload_n hC dX0_creepBy_72 2 rfl ?_
        obtain ⟨a100_, hb100, hk100, hn100⟩ := hs62.row ka0 2 52 300 (by decide) (by decide)
        refine r_getr hC 2 (ci := 0) rfl u0_in (by decide) mT_2_30 dX0_creepBy_73 ka0 rfl rfl hb100 ?_
        refine r_iload hC dX0_creepBy_76 1 rfl ?_
        refine r_iload hC dX0_creepBy_78 6 rfl ?_
        refine r_if_le hC (tgt := 95) dX0_creepBy_80 (by decide) (fun c101 => ?_) (fun c101 => ?_)
        · refine r_iconst hC (v := (0)) dX0_creepBy_95 (by decide) (by decide) (fun x102_ e102 t102 => ?_)
          refine r_iload hC dX0_creepBy_96 0 rfl ?_
          refine r_if_eq hC (tgt := 105) dX0_creepBy_98 (by decide) (fun c103 => ?_) (fun c103 => ?_)
          · exfalso; omega
          refine r_iload_n hC dX0_creepBy_101 3 rfl ?_
          refine r_goto hC (tgt := 106) dX0_creepBy_102 (by decide) ?_
          refine r_iadd hC dX0_creepBy_106 (fun x104_ e104 => ?_)
          try have t104 : x104_.toInt = x102_.toInt + x1.toInt := by rw [e104]; exact ti_add (by omega) (by omega)
          refine x_iastore hC hk100 hn100 (by decide) rfl rfl dX0_creepBy_107 (by omega) (by omega) (fun I105 eI105 => ?_)
          have hs105 := hs62.put0 eI105 hk100 (rng_arr (by decide) _) rfl (xF_arr (by decide) _) (by decide)
          have hF105 := hF62.put eI105 hk100 (inS_arr rfl _)
          exact r_vret hC hQ hlk hr (by decide) (by decide) dX0_creepBy_108 ⟨_, rfl, rfl, ⟨hs105, hF105⟩⟩
        · refine r_aload_n hC dX0_creepBy_83 2 rfl ?_
          refine r_getr hC 2 (ci := 0) rfl u0_in (by decide) mT_2_30 dX0_creepBy_84 ka0 rfl rfl hb100 ?_
          refine r_iload hC dX0_creepBy_87 1 rfl ?_
          refine r_iconst hC (v := (1)) dX0_creepBy_89 (by decide) (by decide) (fun x106_ e106 t106 => ?_)
          refine r_isub hC dX0_creepBy_90 (fun x107_ e107 => ?_)
          try have t107 : x107_.toInt = x1_.toInt - x106_.toInt := by rw [e107]; exact ti_sub (by omega) (by omega)
          refine x_iaload hC hk100 hn100 (by decide) rfl rfl dX0_creepBy_91 (by omega) (by omega) (fun x108_ e108 => ?_)
          refine r_goto hC (tgt := 96) dX0_creepBy_92 (by decide) ?_
          refine r_iload hC dX0_creepBy_96 0 rfl ?_
          refine r_if_eq hC (tgt := 105) dX0_creepBy_98 (by decide) (fun c109 => ?_) (fun c109 => ?_)
          · exfalso; omega
          refine r_iload_n hC dX0_creepBy_101 3 rfl ?_
          refine r_goto hC (tgt := 106) dX0_creepBy_102 (by decide) ?_
          refine r_iadd hC dX0_creepBy_106 (fun x110_ e110 => ?_)
          try have t110 : x110_.toInt = x108_.toInt + x1.toInt := by rw [e110]; exact ti_add (by omega) (by omega)
          refine x_iastore hC hk100 hn100 (by decide) rfl rfl dX0_creepBy_107 (by omega) (by omega) (fun I111 eI111 => ?_)
          have hs111 := hs62.put0 eI111 hk100 (rng_arr (by decide) _) rfl (xF_arr (by decide) _) (by decide)
          have hF111 := hF62.put eI111 hk100 (inS_arr rfl _)
          exact r_vret hC hQ hlk hr (by decide) (by decide) dX0_creepBy_108 ⟨_, rfl, rfl, ⟨hs111, hF111⟩⟩
set_option maxHeartbeats 4000000 in
set_option maxRecDepth 100000 in
theorem c_X0_fillByRise (g : GG) (l : Launch) (K len : Nat → Nat) (I : Nat → Nat → Int32) (J : Nat → Nat → Int64) (R : Nat → Nat → Option Nat) (hs : Sf K len I R) (a0 : Nat) (ka0 : K a0 = 1) (x1 : Int32) (x2 : Int32) (a3 : Nat) (ka3 : K a3 = 41) (na3 : len a3 = 60) : Ct g l yX0_fillByRise cX0_fillByRise 6 (Option.none : Option Jvm.ClassFile.FieldType) rmX0_fillByRise [.ref a0, .int x1, .int x2, .ref a3] (K, len, I, J, R) (pV1 (K, len, I, J, R) (fun I' => Sf K len I' R ∧ Fr K [(54, 999)] I I')) := by
  refine Ct_intro (by decide +kernel) (Nat.le_of_ble_eq_true rfl) (fun X hC hL hKK hNm hr hlk hQ => ?_)
  subst hL
  have hC : Cx g X cX0_fillByRise "HillTap$Course" 6 rmX0_fillByRise := hC
  show P g X 6 0 [(0, .ref a0), (1, .int x1), (2, .int x2), (3, .ref a3)] [] 0 0 (K, len, I, J, R)
  have hF : Fr K [(54, 999)] I I := Fr.refl
  have b_x1 := ti_rng x1
  have b_x2 := ti_rng x2
  refine r_iload_n hC dX0_fillByRise_0 2 rfl ?_
  refine r_istore hC (lv' := [(4, .int x2), (0, .ref a0), (1, .int x1), (2, .int x2), (3, .ref a3)]) dX0_fillByRise_1 (by decide) rfl ?_
  refine r_iconst hC (v := (0)) dX0_fillByRise_3 (by decide) (by decide) (fun x1_ e1 t1 => ?_)
  refine r_istore hC (lv' := [(5, .int x1_), (4, .int x2), (0, .ref a0), (1, .int x1), (2, .int x2), (3, .ref a3)]) dX0_fillByRise_4 (by decide) rfl ?_
  have LP2 : ∀ (mu : Nat) (x2_5 : Int32) (x2_4 : Int32) (I2 : Nat → Nat → Int32) (hs2 : Sf K len I2 R) (hF2 : Fr K [(54, 999)] I I2) (v2_0 : 0 ≤ x2_5.toInt) (v2_1 : x2_5.toInt ≤ 60), (60 - x2_5.toInt).toNat = mu → P g X 6 6 [(0, .ref a0), (1, .int x1), (2, .int x2), (3, .ref a3), (4, .int x2_4), (5, .int x2_5)] [] 0 0 (K, len, I2, J, R) := by
    intro mu; induction mu using Nat.strongRecOn with | ind mu ih => ?_
    intro x2_5 x2_4 I2 hs2 hF2 v2_0 v2_1 hmu
    have ih2 := ih
    clear ih
    have hmu2 := hmu
    clear hmu
    refine r_iload hC dX0_fillByRise_6 5 rfl ?_
    refine r_bipush hC (v := (60)) dX0_fillByRise_8 (by decide) (by decide) (fun x3_ e3 t3 => ?_)
    refine r_icmp_ge hC (tgt := 53) dX0_fillByRise_10 (by decide) (fun c4 => ?_) (fun c4 => ?_)
    · exact r_vret hC hQ hlk hr (by decide) (by decide) dX0_fillByRise_53 ⟨_, rfl, rfl, ⟨hs2, hF2⟩⟩
    · refine r_aload_n hC dX0_fillByRise_13 0 rfl ?_
      obtain ⟨a5_, hb5, hk5, hn5⟩ := hs2.row ka0 4 54 60 (by decide) (by decide)
      refine r_getr hC 4 (ci := 0) rfl u0_in (by decide) mT_2_34 dX0_fillByRise_14 ka0 rfl rfl hb5 ?_
      refine r_iload hC dX0_fillByRise_17 5 rfl ?_
      refine r_iload_n hC dX0_fillByRise_19 1 rfl ?_
      refine r_iconst hC (v := (0)) dX0_fillByRise_20 (by decide) (by decide) (fun x6_ e6 t6 => ?_)
      refine r_aload_n hC dX0_fillByRise_21 3 rfl ?_
      refine r_iload hC dX0_fillByRise_22 5 rfl ?_
      refine x_iaload hC ka3 na3 (by decide) rfl rfl dX0_fillByRise_24 (by omega) (by omega) (fun x7_ e7 => ?_)
      refine r_iload hC dX0_fillByRise_25 4 rfl ?_
      refine r_isub hC dX0_fillByRise_27 (fun x8_ e8 => ?_)
      try have t8 : x8_.toInt = x7_.toInt - x2_4.toInt := by rw [e8]; exact ti_sub (by omega) (by omega)
      refine r_mmax hC mT_3_176 mT_3_11 mT_1_12 mT_3_12 (by decide) (Nat.le_of_ble_eq_true rfl) (Nat.zero_le _) (Nat.zero_le _) dX0_fillByRise_28 (fun x9_ e9 t9a t9b t9c => ?_)
      refine r_imul hC dX0_fillByRise_31 (fun x10_ e10 => ?_)
      refine r_bipush hC (v := (100)) dX0_fillByRise_32 (by decide) (by decide) (fun x11_ e11 t11 => ?_)
      refine r_idiv hC dX0_fillByRise_34 (ne_0 (by omega)) (fun x12_ e12 => ?_)
      refine x_iastore hC hk5 hn5 (by decide) rfl rfl dX0_fillByRise_35 (by omega) (by omega) (fun I13 eI13 => ?_)
      have hs13 := hs2.put0 eI13 hk5 (rng_arr (by decide) _) rfl (xF_arr (by decide) _) (by decide)
      have hF13 := hF2.put eI13 hk5 (inS_arr rfl _)
      refine r_iload hC dX0_fillByRise_36 4 rfl ?_
      refine r_aload_n hC dX0_fillByRise_38 3 rfl ?_
      refine r_iload hC dX0_fillByRise_39 5 rfl ?_
      refine x_iaload hC ka3 na3 (by decide) rfl rfl dX0_fillByRise_41 (by omega) (by omega) (fun x14_ e14 => ?_)
      refine r_mmax hC mT_3_176 mT_3_11 mT_1_12 mT_3_12 (by decide) (Nat.le_of_ble_eq_true rfl) (Nat.zero_le _) (Nat.zero_le _) dX0_fillByRise_42 (fun x15_ e15 t15a t15b t15c => ?_)
      refine r_istore hC (lv' := [(4, .int x15_), (0, .ref a0), (1, .int x1), (2, .int x2), (3, .ref a3), (5, .int x2_5)]) dX0_fillByRise_45 (by decide) rfl ?_
      obtain ⟨x16_, e16⟩ : ∃ z : Int32, z = x2_5 + Int32.ofInt (1) := ⟨_, rfl⟩
      refine r_iinc hC (j := 5) (v := x16_) (lv' := [(5, .int x16_), (4, .int x15_), (0, .ref a0), (1, .int x1), (2, .int x2), (3, .ref a3)]) dX0_fillByRise_47 rfl (by rw [e16]) (by decide) rfl ?_
      try have t16 : x16_.toInt = x2_5.toInt + (1) := by rw [e16]; exact (ti_add (b := Int32.ofInt (1)) (by show _ ≤ _ + (1 : Int); omega) (by show _ + (1 : Int) ≤ _; omega))
      refine r_goto hC (tgt := 6) dX0_fillByRise_50 (by decide) ?_
      refine r_sub [2, 3, 4, 5, 1, 0] rfl ?_
      exact ih2 ((60 - x16_.toInt).toNat) (by omega) x16_ x15_ I13 hs13 hF13 (by omega) (by omega) rfl
  refine r_sub [2, 3, 4, 5, 1, 0] rfl ?_
  exact LP2 _ x1_ x2 I hs hF (by omega) (by omega) rfl
set_option maxHeartbeats 4000000 in
set_option maxRecDepth 100000 in
theorem c_X0_fillByMean (g : GG) (l : Launch) (K len : Nat → Nat) (I : Nat → Nat → Int32) (J : Nat → Nat → Int64) (R : Nat → Nat → Option Nat) (hs : Sf K len I R) (a0 : Nat) (ka0 : K a0 = 1) (x1 : Int32) (x2 : Int32) (a3 : Nat) (ka3 : K a3 = 41) (na3 : len a3 = 60) : Ct g l yX0_fillByMean cX0_fillByMean 7 (Option.none : Option Jvm.ClassFile.FieldType) rmX0_fillByMean [.ref a0, .int x1, .int x2, .ref a3] (K, len, I, J, R) (pV1 (K, len, I, J, R) (fun I' => Sf K len I' R ∧ Fr K [(54, 999)] I I')) := by
  refine Ct_intro (by decide +kernel) (Nat.le_of_ble_eq_true rfl) (fun X hC hL hKK hNm hr hlk hQ => ?_)
  subst hL
  have hC : Cx g X cX0_fillByMean "HillTap$Course" 7 rmX0_fillByMean := hC
  show P g X 7 0 [(0, .ref a0), (1, .int x1), (2, .int x2), (3, .ref a3)] [] 0 0 (K, len, I, J, R)
  have hF : Fr K [(54, 999)] I I := Fr.refl
  have b_x1 := ti_rng x1
  have b_x2 := ti_rng x2
  refine r_iconst hC (v := (0)) dX0_fillByMean_0 (by decide) (by decide) (fun x1_ e1 t1 => ?_)
  refine r_istore hC (lv' := [(4, .int x1_), (0, .ref a0), (1, .int x1), (2, .int x2), (3, .ref a3)]) dX0_fillByMean_1 (by decide) rfl ?_
  refine r_iconst hC (v := (0)) dX0_fillByMean_3 (by decide) (by decide) (fun x2_ e2 t2 => ?_)
  refine r_istore hC (lv' := [(5, .int x2_), (4, .int x1_), (0, .ref a0), (1, .int x1), (2, .int x2), (3, .ref a3)]) dX0_fillByMean_4 (by decide) rfl ?_
  have LP3 : ∀ (mu : Nat) (x3_5 : Int32) (x3_4 : Int32) (I3 : Nat → Nat → Int32) (hs3 : Sf K len I3 R) (hF3 : Fr K [(54, 999)] I I3) (v3_0 : 0 ≤ x3_5.toInt) (v3_1 : x3_5.toInt ≤ 60), (60 - x3_5.toInt).toNat = mu → P g X 7 6 [(0, .ref a0), (1, .int x1), (2, .int x2), (3, .ref a3), (4, .int x3_4), (5, .int x3_5)] [] 0 0 (K, len, I3, J, R) := by
    intro mu; induction mu using Nat.strongRecOn with | ind mu ih => ?_
    intro x3_5 x3_4 I3 hs3 hF3 v3_0 v3_1 hmu
    have ih3 := ih
    clear ih
    have hmu3 := hmu
    clear hmu
    refine r_iload hC dX0_fillByMean_6 5 rfl ?_
    refine r_bipush hC (v := (60)) dX0_fillByMean_8 (by decide) (by decide) (fun x4_ e4 t4 => ?_)
    refine r_icmp_ge hC (tgt := 80) dX0_fillByMean_10 (by decide) (fun c5 => ?_) (fun c5 => ?_)
    · exact r_vret hC hQ hlk hr (by decide) (by decide) dX0_fillByMean_80 ⟨_, rfl, rfl, ⟨hs3, hF3⟩⟩
    · refine r_iload hC dX0_fillByMean_13 4 rfl ?_
      refine r_aload_n hC dX0_fillByMean_15 3 rfl ?_
      refine r_iload hC dX0_fillByMean_16 5 rfl ?_
      refine x_iaload hC ka3 na3 (by decide) rfl rfl dX0_fillByMean_18 (by omega) (by omega) (fun x6_ e6 => ?_)
      refine r_iadd hC dX0_fillByMean_19 (fun x7_ e7 => ?_)
      try have t7 : x7_.toInt = x3_4.toInt + x6_.toInt := by rw [e7]; exact ti_add (by omega) (by omega)
      refine r_istore hC (lv' := [(4, .int x7_), (0, .ref a0), (1, .int x1), (2, .int x2), (3, .ref a3), (5, .int x3_5)]) dX0_fillByMean_20 (by decide) rfl ?_
      refine r_iload_n hC dX0_fillByMean_22 3 rfl ?_
      refine r_if_le hC (tgt := 43) dX0_fillByMean_23 (by decide) (fun c8 => ?_) (fun c8 => ?_)
      · refine r_iconst hC (v := (1)) dX0_fillByMean_43 (by decide) (by decide) (fun x9_ e9 t9 => ?_)
        refine r_iload_n hC dX0_fillByMean_44 3 rfl ?_
        refine r_iload hC dX0_fillByMean_45 5 rfl ?_
        refine r_iconst hC (v := (1)) dX0_fillByMean_47 (by decide) (by decide) (fun x10_ e10 t10 => ?_)
        refine r_iadd hC dX0_fillByMean_48 (fun x11_ e11 => ?_)
        try have t11 : x11_.toInt = x3_5.toInt + x10_.toInt := by rw [e11]; exact ti_add (by omega) (by omega)
        refine r_mmin hC mT_3_181 mT_2_154 mT_1_12 mT_2_155 (by decide) (Nat.le_of_ble_eq_true rfl) (Nat.zero_le _) (Nat.zero_le _) dX0_fillByMean_49 (fun x12_ e12 t12a t12b t12c => ?_)
        refine r_mmax hC mT_3_176 mT_3_11 mT_1_12 mT_3_12 (by decide) (Nat.le_of_ble_eq_true rfl) (Nat.zero_le _) (Nat.zero_le _) dX0_fillByMean_52 (fun x13_ e13 t13a t13b t13c => ?_)
        refine r_istore hC (lv' := [(6, .int x13_), (4, .int x7_), (0, .ref a0), (1, .int x1), (2, .int x2), (3, .ref a3), (5, .int x3_5)]) dX0_fillByMean_55 (by decide) rfl ?_
        refine r_aload_n hC dX0_fillByMean_57 2 rfl ?_
        obtain ⟨a14_, hb14, hk14, hn14⟩ := hs3.row ka0 4 54 60 (by decide) (by decide)
        refine r_getr hC 4 (ci := 0) rfl u0_in (by decide) mT_2_34 dX0_fillByMean_58 ka0 rfl rfl hb14 ?_
        refine r_iload hC dX0_fillByMean_61 6 rfl ?_
        refine r_iload_n hC dX0_fillByMean_63 3 rfl ?_
        refine r_iload hC dX0_fillByMean_64 1 rfl ?_
        refine r_iload hC dX0_fillByMean_66 0 rfl ?_
        refine r_idiv hC dX0_fillByMean_68 (ne_0 (by omega)) (fun x15_ e15 => ?_)
        refine r_imul hC dX0_fillByMean_69 (fun x16_ e16 => ?_)
        refine r_bipush hC (v := (100)) dX0_fillByMean_70 (by decide) (by decide) (fun x17_ e17 t17 => ?_)
        refine r_idiv hC dX0_fillByMean_72 (ne_0 (by omega)) (fun x18_ e18 => ?_)
        refine x_iastore hC hk14 hn14 (by decide) rfl rfl dX0_fillByMean_73 (by omega) (by omega) (fun I19 eI19 => ?_)
        have hs19 := hs3.put0 eI19 hk14 (rng_arr (by decide) _) rfl (xF_arr (by decide) _) (by decide)
        have hF19 := hF3.put eI19 hk14 (inS_arr rfl _)
        obtain ⟨x20_, e20⟩ : ∃ z : Int32, z = x3_5 + Int32.ofInt (1) := ⟨_, rfl⟩
        refine r_iinc hC (j := 6) (v := x20_) (lv' := [(5, .int x20_), (6, .int x13_), (4, .int x7_), (0, .ref a0), (1, .int x1), (2, .int x2), (3, .ref a3)]) dX0_fillByMean_74 rfl (by rw [e20]) (by decide) rfl ?_
        try have t20 : x20_.toInt = x3_5.toInt + (1) := by rw [e20]; exact (ti_add (b := Int32.ofInt (1)) (by show _ ≤ _ + (1 : Int); omega) (by show _ + (1 : Int) ≤ _; omega))
        refine r_goto hC (tgt := 6) dX0_fillByMean_77 (by decide) ?_
        refine r_sub [3, 4, 5, 6, 2, 0] rfl ?_
        exact ih3 ((60 - x20_.toInt).toNat) (by omega) x20_ x7_ I19 hs19 hF19 (by omega) (by omega) rfl
      · refine r_iload hC dX0_fillByMean_26 5 rfl ?_
        refine r_iload_n hC dX0_fillByMean_28 3 rfl ?_
        refine r_icmp_lt hC (tgt := 43) dX0_fillByMean_29 (by decide) (fun c21 => ?_) (fun c21 => ?_)
        · refine r_iconst hC (v := (1)) dX0_fillByMean_43 (by decide) (by decide) (fun x22_ e22 t22 => ?_)
          refine r_iload_n hC dX0_fillByMean_44 3 rfl ?_
          refine r_iload hC dX0_fillByMean_45 5 rfl ?_
          refine r_iconst hC (v := (1)) dX0_fillByMean_47 (by decide) (by decide) (fun x23_ e23 t23 => ?_)
          refine r_iadd hC dX0_fillByMean_48 (fun x24_ e24 => ?_)
          try have t24 : x24_.toInt = x3_5.toInt + x23_.toInt := by rw [e24]; exact ti_add (by omega) (by omega)
          refine r_mmin hC mT_3_181 mT_2_154 mT_1_12 mT_2_155 (by decide) (Nat.le_of_ble_eq_true rfl) (Nat.zero_le _) (Nat.zero_le _) dX0_fillByMean_49 (fun x25_ e25 t25a t25b t25c => ?_)
          refine r_mmax hC mT_3_176 mT_3_11 mT_1_12 mT_3_12 (by decide) (Nat.le_of_ble_eq_true rfl) (Nat.zero_le _) (Nat.zero_le _) dX0_fillByMean_52 (fun x26_ e26 t26a t26b t26c => ?_)
          refine r_istore hC (lv' := [(6, .int x26_), (4, .int x7_), (0, .ref a0), (1, .int x1), (2, .int x2), (3, .ref a3), (5, .int x3_5)]) dX0_fillByMean_55 (by decide) rfl ?_
          refine r_aload_n hC dX0_fillByMean_57 2 rfl ?_
          obtain ⟨a27_, hb27, hk27, hn27⟩ := hs3.row ka0 4 54 60 (by decide) (by decide)
          refine r_getr hC 4 (ci := 0) rfl u0_in (by decide) mT_2_34 dX0_fillByMean_58 ka0 rfl rfl hb27 ?_
          refine r_iload hC dX0_fillByMean_61 6 rfl ?_
          refine r_iload_n hC dX0_fillByMean_63 3 rfl ?_
          refine r_iload hC dX0_fillByMean_64 1 rfl ?_
          refine r_iload hC dX0_fillByMean_66 0 rfl ?_
          refine r_idiv hC dX0_fillByMean_68 (ne_0 (by omega)) (fun x28_ e28 => ?_)
          refine r_imul hC dX0_fillByMean_69 (fun x29_ e29 => ?_)
          refine r_bipush hC (v := (100)) dX0_fillByMean_70 (by decide) (by decide) (fun x30_ e30 t30 => ?_)
          refine r_idiv hC dX0_fillByMean_72 (ne_0 (by omega)) (fun x31_ e31 => ?_)
          refine x_iastore hC hk27 hn27 (by decide) rfl rfl dX0_fillByMean_73 (by omega) (by omega) (fun I32 eI32 => ?_)
          have hs32 := hs3.put0 eI32 hk27 (rng_arr (by decide) _) rfl (xF_arr (by decide) _) (by decide)
          have hF32 := hF3.put eI32 hk27 (inS_arr rfl _)
          obtain ⟨x33_, e33⟩ : ∃ z : Int32, z = x3_5 + Int32.ofInt (1) := ⟨_, rfl⟩
          refine r_iinc hC (j := 6) (v := x33_) (lv' := [(5, .int x33_), (6, .int x26_), (4, .int x7_), (0, .ref a0), (1, .int x1), (2, .int x2), (3, .ref a3)]) dX0_fillByMean_74 rfl (by rw [e33]) (by decide) rfl ?_
          try have t33 : x33_.toInt = x3_5.toInt + (1) := by rw [e33]; exact (ti_add (b := Int32.ofInt (1)) (by show _ ≤ _ + (1 : Int); omega) (by show _ + (1 : Int) ≤ _; omega))
          refine r_goto hC (tgt := 6) dX0_fillByMean_77 (by decide) ?_
          refine r_sub [3, 4, 5, 6, 2, 0] rfl ?_
          exact ih3 ((60 - x33_.toInt).toNat) (by omega) x33_ x7_ I32 hs32 hF32 (by omega) (by omega) rfl
        · refine r_iload hC dX0_fillByMean_32 0 rfl ?_
          refine r_aload_n hC dX0_fillByMean_34 4 rfl ?_
          refine r_iload hC dX0_fillByMean_35 5 rfl ?_
          refine r_iload_n hC dX0_fillByMean_37 3 rfl ?_
          refine r_isub hC dX0_fillByMean_38 (fun x34_ e34 => ?_)
          try have t34 : x34_.toInt = x3_5.toInt - x2.toInt := by rw [e34]; exact ti_sub (by omega) (by omega)
          refine x_iaload hC ka3 na3 (by decide) rfl rfl dX0_fillByMean_39 (by omega) (by omega) (fun x35_ e35 => ?_)
          refine r_isub hC dX0_fillByMean_40 (fun x36_ e36 => ?_)
          try have t36 : x36_.toInt = x7_.toInt - x35_.toInt := by rw [e36]; exact ti_sub (by omega) (by omega)
          refine r_istore hC (lv' := [(4, .int x36_), (0, .ref a0), (1, .int x1), (2, .int x2), (3, .ref a3), (5, .int x3_5)]) dX0_fillByMean_41 (by decide) rfl ?_
          refine r_iconst hC (v := (1)) dX0_fillByMean_43 (by decide) (by decide) (fun x37_ e37 t37 => ?_)
          refine r_iload_n hC dX0_fillByMean_44 3 rfl ?_
          refine r_iload hC dX0_fillByMean_45 5 rfl ?_
          refine r_iconst hC (v := (1)) dX0_fillByMean_47 (by decide) (by decide) (fun x38_ e38 t38 => ?_)
          refine r_iadd hC dX0_fillByMean_48 (fun x39_ e39 => ?_)
          try have t39 : x39_.toInt = x3_5.toInt + x38_.toInt := by rw [e39]; exact ti_add (by omega) (by omega)
          refine r_mmin hC mT_3_181 mT_2_154 mT_1_12 mT_2_155 (by decide) (Nat.le_of_ble_eq_true rfl) (Nat.zero_le _) (Nat.zero_le _) dX0_fillByMean_49 (fun x40_ e40 t40a t40b t40c => ?_)
          refine r_mmax hC mT_3_176 mT_3_11 mT_1_12 mT_3_12 (by decide) (Nat.le_of_ble_eq_true rfl) (Nat.zero_le _) (Nat.zero_le _) dX0_fillByMean_52 (fun x41_ e41 t41a t41b t41c => ?_)
          refine r_istore hC (lv' := [(6, .int x41_), (4, .int x36_), (0, .ref a0), (1, .int x1), (2, .int x2), (3, .ref a3), (5, .int x3_5)]) dX0_fillByMean_55 (by decide) rfl ?_
          refine r_aload_n hC dX0_fillByMean_57 2 rfl ?_
          obtain ⟨a42_, hb42, hk42, hn42⟩ := hs3.row ka0 4 54 60 (by decide) (by decide)
          refine r_getr hC 4 (ci := 0) rfl u0_in (by decide) mT_2_34 dX0_fillByMean_58 ka0 rfl rfl hb42 ?_
          refine r_iload hC dX0_fillByMean_61 6 rfl ?_
          refine r_iload_n hC dX0_fillByMean_63 3 rfl ?_
          refine r_iload hC dX0_fillByMean_64 1 rfl ?_
          refine r_iload hC dX0_fillByMean_66 0 rfl ?_
          refine r_idiv hC dX0_fillByMean_68 (ne_0 (by omega)) (fun x43_ e43 => ?_)
          refine r_imul hC dX0_fillByMean_69 (fun x44_ e44 => ?_)
          refine r_bipush hC (v := (100)) dX0_fillByMean_70 (by decide) (by decide) (fun x45_ e45 t45 => ?_)
          refine r_idiv hC dX0_fillByMean_72 (ne_0 (by omega)) (fun x46_ e46 => ?_)
          refine x_iastore hC hk42 hn42 (by decide) rfl rfl dX0_fillByMean_73 (by omega) (by omega) (fun I47 eI47 => ?_)
          have hs47 := hs3.put0 eI47 hk42 (rng_arr (by decide) _) rfl (xF_arr (by decide) _) (by decide)
          have hF47 := hF3.put eI47 hk42 (inS_arr rfl _)
          obtain ⟨x48_, e48⟩ : ∃ z : Int32, z = x3_5 + Int32.ofInt (1) := ⟨_, rfl⟩
          refine r_iinc hC (j := 6) (v := x48_) (lv' := [(5, .int x48_), (6, .int x41_), (4, .int x36_), (0, .ref a0), (1, .int x1), (2, .int x2), (3, .ref a3)]) dX0_fillByMean_74 rfl (by rw [e48]) (by decide) rfl ?_
          try have t48 : x48_.toInt = x3_5.toInt + (1) := by rw [e48]; exact (ti_add (b := Int32.ofInt (1)) (by show _ ≤ _ + (1 : Int); omega) (by show _ + (1 : Int) ≤ _; omega))
          refine r_goto hC (tgt := 6) dX0_fillByMean_77 (by decide) ?_
          refine r_sub [3, 4, 5, 6, 2, 0] rfl ?_
          exact ih3 ((60 - x48_.toInt).toNat) (by omega) x48_ x36_ I47 hs47 hF47 (by omega) (by omega) rfl
  refine r_sub [2, 3, 4, 5, 1, 0] rfl ?_
  exact LP3 _ x2_ x1_ I hs hF (by omega) (by omega) rfl
set_option maxHeartbeats 4000000 in
set_option maxRecDepth 100000 in
theorem c_X0_fillByRain (g : GG) (l : Launch) (K len : Nat → Nat) (I : Nat → Nat → Int32) (J : Nat → Nat → Int64) (R : Nat → Nat → Option Nat) (hs : Sf K len I R) (a0 : Nat) (ka0 : K a0 = 1) (x1 : Int32) (a2 : Nat) (ka2 : K a2 = 57) (na2 : len a2 = 60) : Ct g l yX0_fillByRain cX0_fillByRain 5 (Option.none : Option Jvm.ClassFile.FieldType) rmX0_fillByRain [.ref a0, .int x1, .ref a2] (K, len, I, J, R) (pV1 (K, len, I, J, R) (fun I' => Sf K len I' R ∧ Fr K [(54, 999)] I I')) := by
  refine Ct_intro (by decide +kernel) (Nat.le_of_ble_eq_true rfl) (fun X hC hL hKK hNm hr hlk hQ => ?_)
  subst hL
  have hC : Cx g X cX0_fillByRain "HillTap$Course" 5 rmX0_fillByRain := hC
  show P g X 5 0 [(0, .ref a0), (1, .int x1), (2, .ref a2)] [] 0 0 (K, len, I, J, R)
  have hF : Fr K [(54, 999)] I I := Fr.refl
  have b_x1 := ti_rng x1
  refine r_iconst hC (v := (0)) dX0_fillByRain_0 (by decide) (by decide) (fun x1_ e1 t1 => ?_)
  refine r_istore_n hC (lv' := [(3, .int x1_), (0, .ref a0), (1, .int x1), (2, .ref a2)]) dX0_fillByRain_1 (by decide) rfl ?_
  refine r_iconst hC (v := (0)) dX0_fillByRain_2 (by decide) (by decide) (fun x2_ e2 t2 => ?_)
  refine r_istore hC (lv' := [(4, .int x2_), (3, .int x1_), (0, .ref a0), (1, .int x1), (2, .ref a2)]) dX0_fillByRain_3 (by decide) rfl ?_
  have LP3 : ∀ (mu : Nat) (x3_4 : Int32) (x3_3 : Int32) (I3 : Nat → Nat → Int32) (hs3 : Sf K len I3 R) (hF3 : Fr K [(54, 999)] I I3) (v3_0 : 0 ≤ x3_4.toInt) (v3_1 : x3_4.toInt ≤ 60), (60 - x3_4.toInt).toNat = mu → P g X 5 5 [(0, .ref a0), (1, .int x1), (2, .ref a2), (3, .int x3_3), (4, .int x3_4)] [] 0 0 (K, len, I3, J, R) := by
    intro mu; induction mu using Nat.strongRecOn with | ind mu ih => ?_
    intro x3_4 x3_3 I3 hs3 hF3 v3_0 v3_1 hmu
    have ih3 := ih
    clear ih
    have hmu3 := hmu
    clear hmu
    refine r_iload hC dX0_fillByRain_5 4 rfl ?_
    refine r_bipush hC (v := (60)) dX0_fillByRain_7 (by decide) (by decide) (fun x4_ e4 t4 => ?_)
    refine r_icmp_ge hC (tgt := 50) dX0_fillByRain_9 (by decide) (fun c5 => ?_) (fun c5 => ?_)
    · exact r_vret hC hQ hlk hr (by decide) (by decide) dX0_fillByRain_50 ⟨_, rfl, rfl, ⟨hs3, hF3⟩⟩
    · refine r_iload_n hC dX0_fillByRain_12 3 rfl ?_
      refine r_aload_n hC dX0_fillByRain_13 2 rfl ?_
      refine r_iload hC dX0_fillByRain_14 4 rfl ?_
      refine x_iaload hC ka2 na2 (by decide) rfl rfl dX0_fillByRain_16 (by omega) (by omega) (fun x6_ e6 => ?_)
      refine r_iadd hC dX0_fillByRain_17 (fun x7_ e7 => ?_)
      try have t7 : x7_.toInt = x3_3.toInt + x6_.toInt := by rw [e7]; exact ti_add (by omega) (by omega)
      refine r_istore_n hC (lv' := [(3, .int x7_), (0, .ref a0), (1, .int x1), (2, .ref a2), (4, .int x3_4)]) dX0_fillByRain_18 (by decide) rfl ?_
      refine r_iload hC dX0_fillByRain_19 4 rfl ?_
      refine r_iconst hC (v := (5)) dX0_fillByRain_21 (by decide) (by decide) (fun x8_ e8 t8 => ?_)
      refine r_icmp_lt hC (tgt := 34) dX0_fillByRain_22 (by decide) (fun c9 => ?_) (fun c9 => ?_)
      · refine r_aload_n hC dX0_fillByRain_34 1 rfl ?_
        obtain ⟨a10_, hb10, hk10, hn10⟩ := hs3.row ka0 4 54 60 (by decide) (by decide)
        refine r_getr hC 4 (ci := 0) rfl u0_in (by decide) mT_2_34 dX0_fillByRain_35 ka0 rfl rfl hb10 ?_
        refine r_iload hC dX0_fillByRain_38 4 rfl ?_
        refine r_iload_n hC dX0_fillByRain_40 2 rfl ?_
        refine r_iload_n hC dX0_fillByRain_41 0 rfl ?_
        refine r_imul hC dX0_fillByRain_42 (fun x11_ e11 => ?_)
        refine x_iastore hC hk10 hn10 (by decide) rfl rfl dX0_fillByRain_43 (by omega) (by omega) (fun I12 eI12 => ?_)
        have hs12 := hs3.put0 eI12 hk10 (rng_arr (by decide) _) rfl (xF_arr (by decide) _) (by decide)
        have hF12 := hF3.put eI12 hk10 (inS_arr rfl _)
        obtain ⟨x13_, e13⟩ : ∃ z : Int32, z = x3_4 + Int32.ofInt (1) := ⟨_, rfl⟩
        refine r_iinc hC (j := 4) (v := x13_) (lv' := [(4, .int x13_), (3, .int x7_), (0, .ref a0), (1, .int x1), (2, .ref a2)]) dX0_fillByRain_44 rfl (by rw [e13]) (by decide) rfl ?_
        try have t13 : x13_.toInt = x3_4.toInt + (1) := by rw [e13]; exact (ti_add (b := Int32.ofInt (1)) (by show _ ≤ _ + (1 : Int); omega) (by show _ + (1 : Int) ≤ _; omega))
        refine r_goto hC (tgt := 5) dX0_fillByRain_47 (by decide) ?_
        refine r_sub [2, 3, 4, 1, 0] rfl ?_
        exact ih3 ((60 - x13_.toInt).toNat) (by omega) x13_ x7_ I12 hs12 hF12 (by omega) (by omega) rfl
      · refine r_iload_n hC dX0_fillByRain_25 0 rfl ?_
        refine r_aload_n hC dX0_fillByRain_26 3 rfl ?_
        refine r_iload hC dX0_fillByRain_27 4 rfl ?_
        refine r_iconst hC (v := (5)) dX0_fillByRain_29 (by decide) (by decide) (fun x14_ e14 t14 => ?_)
        refine r_isub hC dX0_fillByRain_30 (fun x15_ e15 => ?_)
        try have t15 : x15_.toInt = x3_4.toInt - x14_.toInt := by rw [e15]; exact ti_sub (by omega) (by omega)
        refine x_iaload hC ka2 na2 (by decide) rfl rfl dX0_fillByRain_31 (by omega) (by omega) (fun x16_ e16 => ?_)
        refine r_isub hC dX0_fillByRain_32 (fun x17_ e17 => ?_)
        try have t17 : x17_.toInt = x7_.toInt - x16_.toInt := by rw [e17]; exact ti_sub (by omega) (by omega)
        refine r_istore_n hC (lv' := [(3, .int x17_), (0, .ref a0), (1, .int x1), (2, .ref a2), (4, .int x3_4)]) dX0_fillByRain_33 (by decide) rfl ?_
        refine r_aload_n hC dX0_fillByRain_34 1 rfl ?_
        obtain ⟨a18_, hb18, hk18, hn18⟩ := hs3.row ka0 4 54 60 (by decide) (by decide)
        refine r_getr hC 4 (ci := 0) rfl u0_in (by decide) mT_2_34 dX0_fillByRain_35 ka0 rfl rfl hb18 ?_
        refine r_iload hC dX0_fillByRain_38 4 rfl ?_
        refine r_iload_n hC dX0_fillByRain_40 2 rfl ?_
        refine r_iload_n hC dX0_fillByRain_41 0 rfl ?_
        refine r_imul hC dX0_fillByRain_42 (fun x19_ e19 => ?_)
        refine x_iastore hC hk18 hn18 (by decide) rfl rfl dX0_fillByRain_43 (by omega) (by omega) (fun I20 eI20 => ?_)
        have hs20 := hs3.put0 eI20 hk18 (rng_arr (by decide) _) rfl (xF_arr (by decide) _) (by decide)
        have hF20 := hF3.put eI20 hk18 (inS_arr rfl _)
        obtain ⟨x21_, e21⟩ : ∃ z : Int32, z = x3_4 + Int32.ofInt (1) := ⟨_, rfl⟩
        refine r_iinc hC (j := 4) (v := x21_) (lv' := [(4, .int x21_), (3, .int x17_), (0, .ref a0), (1, .int x1), (2, .ref a2)]) dX0_fillByRain_44 rfl (by rw [e21]) (by decide) rfl ?_
        try have t21 : x21_.toInt = x3_4.toInt + (1) := by rw [e21]; exact (ti_add (b := Int32.ofInt (1)) (by show _ ≤ _ + (1 : Int); omega) (by show _ + (1 : Int) ≤ _; omega))
        refine r_goto hC (tgt := 5) dX0_fillByRain_47 (by decide) ?_
        refine r_sub [2, 3, 4, 1, 0] rfl ?_
        exact ih3 ((60 - x21_.toInt).toNat) (by omega) x21_ x17_ I20 hs20 hF20 (by omega) (by omega) rfl
  refine r_sub [2, 3, 4, 1, 0] rfl ?_
  exact LP3 _ x2_ x1_ I hs hF (by omega) (by omega) rfl
set_option maxHeartbeats 4000000 in
set_option maxRecDepth 100000 in
theorem c_X0_fillAdds (g : GG) (l : Launch) (K len : Nat → Nat) (I : Nat → Nat → Int32) (J : Nat → Nat → Int64) (R : Nat → Nat → Option Nat) (hs : Sf K len I R) (a0 : Nat) (ka0 : K a0 = 1) (a1 : Nat) (ka1 : K a1 = 2) (a2 : Nat) (ka2 : K a2 = 5) (a3 : Nat) (ka3 : K a3 = 41) (na3 : len a3 = 60) (x4 : Int32) : Ct g l yX0_fillAdds cX0_fillAdds 6 (Option.none : Option Jvm.ClassFile.FieldType) rmX0_fillAdds [.ref a0, .ref a1, .ref a2, .ref a3, .int x4] (K, len, I, J, R) (pV1 (K, len, I, J, R) (fun I' => Sf K len I' R ∧ Fr K [(54, 999)] I I')) := by
  refine Ct_intro (by decide +kernel) (Nat.le_of_ble_eq_true rfl) (fun X hC hL hKK hNm hr hlk hQ => ?_)
  subst hL
  have hC : Cx g X cX0_fillAdds "HillTap$Course" 6 rmX0_fillAdds := hC
  show P g X 6 0 [(0, .ref a0), (1, .ref a1), (2, .ref a2), (3, .ref a3), (4, .int x4)] [] 0 0 (K, len, I, J, R)
  have hF : Fr K [(54, 999)] I I := Fr.refl
  have b_x4 := ti_rng x4
  refine r_aload_n hC dX0_fillAdds_0 2 rfl ?_
  refine r_geti hC 1 (ci := 4) rfl u4_in (by decide) mT_1_163 dX0_fillAdds_1 ka2 rfl rfl (fun x1_ e1 => ?_)
  by_cases o2 : x1_.toInt < 1 ∨ 5 < x1_.toInt
  · refine r_tabOut hC (tgt := 99) dX0_fillAdds_4 o2 (by decide) ?_
    refine r_iconst hC (v := (0)) dX0_fillAdds_99 (by decide) (by decide) (fun x3_ e3 t3 => ?_)
    refine r_istore hC (lv' := [(5, .int x3_), (0, .ref a0), (1, .ref a1), (2, .ref a2), (3, .ref a3), (4, .int x4)]) dX0_fillAdds_100 (by decide) rfl ?_
    have LP4 : ∀ (mu : Nat) (x4_5 : Int32) (I4 : Nat → Nat → Int32) (hs4 : Sf K len I4 R) (hF4 : Fr K [(54, 999)] I I4) (v4_0 : 0 ≤ x4_5.toInt) (v4_1 : x4_5.toInt ≤ 60), (60 - x4_5.toInt).toNat = mu → P g X 6 102 [(0, .ref a0), (1, .ref a1), (2, .ref a2), (3, .ref a3), (4, .int x4), (5, .int x4_5)] [] 0 0 (K, len, I4, J, R) := by
      intro mu; induction mu using Nat.strongRecOn with | ind mu ih => ?_
      intro x4_5 I4 hs4 hF4 v4_0 v4_1 hmu
      have ih4 := ih
      clear ih
      have hmu4 := hmu
      clear hmu
      refine r_iload hC dX0_fillAdds_102 5 rfl ?_
      refine r_bipush hC (v := (60)) dX0_fillAdds_104 (by decide) (by decide) (fun x5_ e5 t5 => ?_)
      refine r_icmp_ge hC (tgt := 134) dX0_fillAdds_106 (by decide) (fun c6 => ?_) (fun c6 => ?_)
      · exact r_vret hC hQ hlk hr (by decide) (by decide) dX0_fillAdds_134 ⟨_, rfl, rfl, ⟨hs4, hF4⟩⟩
      · refine r_aload_n hC dX0_fillAdds_109 0 rfl ?_
        obtain ⟨a7_, hb7, hk7, hn7⟩ := hs4.row ka0 4 54 60 (by decide) (by decide)
        refine r_getr hC 4 (ci := 0) rfl u0_in (by decide) mT_2_34 dX0_fillAdds_110 ka0 rfl rfl hb7 ?_
        refine r_iload hC dX0_fillAdds_113 5 rfl ?_
        refine r_aload_n hC dX0_fillAdds_115 2 rfl ?_
        refine r_geti hC 2 (ci := 4) rfl u4_in (by decide) mT_1_167 dX0_fillAdds_116 ka2 rfl rfl (fun x8_ e8 => ?_)
        refine r_aload_n hC dX0_fillAdds_119 3 rfl ?_
        refine r_iload hC dX0_fillAdds_120 5 rfl ?_
        refine x_iaload hC ka3 na3 (by decide) rfl rfl dX0_fillAdds_122 (by omega) (by omega) (fun x9_ e9 => ?_)
        refine r_imul hC dX0_fillAdds_123 (fun x10_ e10 => ?_)
        refine r_bipush hC (v := (100)) dX0_fillAdds_124 (by decide) (by decide) (fun x11_ e11 t11 => ?_)
        refine r_idiv hC dX0_fillAdds_126 (ne_0 (by omega)) (fun x12_ e12 => ?_)
        refine x_iastore hC hk7 hn7 (by decide) rfl rfl dX0_fillAdds_127 (by omega) (by omega) (fun I13 eI13 => ?_)
        have hs13 := hs4.put0 eI13 hk7 (rng_arr (by decide) _) rfl (xF_arr (by decide) _) (by decide)
        have hF13 := hF4.put eI13 hk7 (inS_arr rfl _)
        obtain ⟨x14_, e14⟩ : ∃ z : Int32, z = x4_5 + Int32.ofInt (1) := ⟨_, rfl⟩
        refine r_iinc hC (j := 5) (v := x14_) (lv' := [(5, .int x14_), (0, .ref a0), (1, .ref a1), (2, .ref a2), (3, .ref a3), (4, .int x4)]) dX0_fillAdds_128 rfl (by rw [e14]) (by decide) rfl ?_
        try have t14 : x14_.toInt = x4_5.toInt + (1) := by rw [e14]; exact (ti_add (b := Int32.ofInt (1)) (by show _ ≤ _ + (1 : Int); omega) (by show _ + (1 : Int) ≤ _; omega))
        refine r_goto hC (tgt := 102) dX0_fillAdds_131 (by decide) ?_
        refine r_sub [1, 2, 3, 4, 5, 0] rfl ?_
        exact ih4 ((60 - x14_.toInt).toNat) (by omega) x14_ I13 hs13 hF13 (by omega) (by omega) rfl
    refine r_sub [1, 2, 3, 4, 5, 0] rfl ?_
    exact LP4 _ x3_ I hs hF (by omega) (by omega) rfl
  · rcases (show x1_.toInt = 1 ∨ x1_.toInt = 2 ∨ x1_.toInt = 3 ∨ x1_.toInt = 4 ∨ x1_.toInt = 5 by omega) with o2 | o2 | o2 | o2 | o2
    · refine r_tabIn hC (tgt := 40) (off := 36) dX0_fillAdds_4 (by omega) (by omega) (by rw [o2]; decide) (by decide) ?_
      refine r_aload_n hC dX0_fillAdds_40 0 rfl ?_
      refine r_aload_n hC dX0_fillAdds_41 2 rfl ?_
      refine r_geti hC 2 (ci := 4) rfl u4_in (by decide) mT_1_167 dX0_fillAdds_42 ka2 rfl rfl (fun x15_ e15 => ?_)
      refine r_aload_n hC dX0_fillAdds_45 1 rfl ?_
      obtain ⟨a16_, hb16, hk16⟩ := hs.obj ka1 0 3 (by decide)
      refine r_getr hC 0 (ci := 1) rfl u1_in (by decide) mT_1_183 dX0_fillAdds_46 ka1 rfl rfl hb16 ?_
      refine r_geti hC 1 (ci := 2) rfl u2_in (by decide) mT_1_121 dX0_fillAdds_49 hk16 rfl rfl (fun x17_ e17 => ?_)
      refine r_aload_n hC dX0_fillAdds_52 3 rfl ?_
      refine r_callV hC (As := [.int x15_, .int x17_, .ref a3]) (rest := []) (ci := 0) (c_X0_fillByRise g (xL X) K len I J R hs a0 ka0 x15_ x17_ a3 ka3 na3) mT_3_175 mT_1_8 mT_3_172 mT_3_174 mP_28 okX0_fillByRise ⟨by decide, by decide⟩ rfl (by show kO (K a0) = _; rw [ka0]; rfl) rfl rfl (Nat.le_of_ble_eq_true rfl) ⟨by decide, by decide⟩ dX0_fillAdds_53 (aV1 (F := fun st M => P g X 6 56 [(0, .ref a0), (1, .ref a1), (2, .ref a2), (3, .ref a3), (4, .int x4)] st _ _ M) (M := (K, len, I, J, R)) fun I18 h18 => ?_)
      obtain ⟨hs18, hf18⟩ := h18
      show P g X 6 56 [(0, .ref a0), (1, .ref a1), (2, .ref a2), (3, .ref a3), (4, .int x4)] [] _ _ (K, len, I18, J, R)
      have hF18 : Fr K [(54, 999)] I I18 := hF.trans hf18 rfl rfl
      refine r_goto hC (tgt := 134) dX0_fillAdds_56 (by decide) ?_
      exact r_vret hC hQ hlk hr (by decide) (by decide) dX0_fillAdds_134 ⟨_, rfl, rfl, ⟨hs18, hF18⟩⟩
    · refine r_tabIn hC (tgt := 59) (off := 55) dX0_fillAdds_4 (by omega) (by omega) (by rw [o2]; decide) (by decide) ?_
      refine r_aload_n hC dX0_fillAdds_59 0 rfl ?_
      refine r_aload_n hC dX0_fillAdds_60 2 rfl ?_
      refine r_geti hC 2 (ci := 4) rfl u4_in (by decide) mT_1_167 dX0_fillAdds_61 ka2 rfl rfl (fun x19_ e19 => ?_)
      refine r_aload_n hC dX0_fillAdds_64 2 rfl ?_
      refine r_geti hC 3 (ci := 4) rfl u4_in (by decide) mT_1_169 dX0_fillAdds_65 ka2 rfl rfl (fun x20_ e20 => ?_)
      refine r_aload_n hC dX0_fillAdds_68 3 rfl ?_
      refine r_callV hC (As := [.int x19_, .int x20_, .ref a3]) (rest := []) (ci := 0) (c_X0_fillByMean g (xL X) K len I J R hs a0 ka0 x19_ x20_ a3 ka3 na3) mT_3_180 mT_1_8 mT_3_177 mT_3_179 mP_29 okX0_fillByMean ⟨by decide, by decide⟩ rfl (by show kO (K a0) = _; rw [ka0]; rfl) rfl rfl (Nat.le_of_ble_eq_true rfl) ⟨by decide, by decide⟩ dX0_fillAdds_69 (aV1 (F := fun st M => P g X 6 72 [(0, .ref a0), (1, .ref a1), (2, .ref a2), (3, .ref a3), (4, .int x4)] st _ _ M) (M := (K, len, I, J, R)) fun I21 h21 => ?_)
      obtain ⟨hs21, hf21⟩ := h21
      show P g X 6 72 [(0, .ref a0), (1, .ref a1), (2, .ref a2), (3, .ref a3), (4, .int x4)] [] _ _ (K, len, I21, J, R)
      have hF21 : Fr K [(54, 999)] I I21 := hF.trans hf21 rfl rfl
      refine r_goto hC (tgt := 134) dX0_fillAdds_72 (by decide) ?_
      exact r_vret hC hQ hlk hr (by decide) (by decide) dX0_fillAdds_134 ⟨_, rfl, rfl, ⟨hs21, hF21⟩⟩
    · refine r_tabIn hC (tgt := 99) (off := 95) dX0_fillAdds_4 (by omega) (by omega) (by rw [o2]; decide) (by decide) ?_
      refine r_iconst hC (v := (0)) dX0_fillAdds_99 (by decide) (by decide) (fun x22_ e22 t22 => ?_)
      refine r_istore hC (lv' := [(5, .int x22_), (0, .ref a0), (1, .ref a1), (2, .ref a2), (3, .ref a3), (4, .int x4)]) dX0_fillAdds_100 (by decide) rfl ?_
      have LP23 : ∀ (mu : Nat) (x23_5 : Int32) (I23 : Nat → Nat → Int32) (hs23 : Sf K len I23 R) (hF23 : Fr K [(54, 999)] I I23) (v23_0 : 0 ≤ x23_5.toInt) (v23_1 : x23_5.toInt ≤ 60), (60 - x23_5.toInt).toNat = mu → P g X 6 102 [(0, .ref a0), (1, .ref a1), (2, .ref a2), (3, .ref a3), (4, .int x4), (5, .int x23_5)] [] 0 0 (K, len, I23, J, R) := by
        intro mu; induction mu using Nat.strongRecOn with | ind mu ih => ?_
        intro x23_5 I23 hs23 hF23 v23_0 v23_1 hmu
        have ih23 := ih
        clear ih
        have hmu23 := hmu
        clear hmu
        refine r_iload hC dX0_fillAdds_102 5 rfl ?_
        refine r_bipush hC (v := (60)) dX0_fillAdds_104 (by decide) (by decide) (fun x24_ e24 t24 => ?_)
        refine r_icmp_ge hC (tgt := 134) dX0_fillAdds_106 (by decide) (fun c25 => ?_) (fun c25 => ?_)
        · exact r_vret hC hQ hlk hr (by decide) (by decide) dX0_fillAdds_134 ⟨_, rfl, rfl, ⟨hs23, hF23⟩⟩
        · refine r_aload_n hC dX0_fillAdds_109 0 rfl ?_
          obtain ⟨a26_, hb26, hk26, hn26⟩ := hs23.row ka0 4 54 60 (by decide) (by decide)
          refine r_getr hC 4 (ci := 0) rfl u0_in (by decide) mT_2_34 dX0_fillAdds_110 ka0 rfl rfl hb26 ?_
          refine r_iload hC dX0_fillAdds_113 5 rfl ?_
          refine r_aload_n hC dX0_fillAdds_115 2 rfl ?_
          refine r_geti hC 2 (ci := 4) rfl u4_in (by decide) mT_1_167 dX0_fillAdds_116 ka2 rfl rfl (fun x27_ e27 => ?_)
          refine r_aload_n hC dX0_fillAdds_119 3 rfl ?_
          refine r_iload hC dX0_fillAdds_120 5 rfl ?_
          refine x_iaload hC ka3 na3 (by decide) rfl rfl dX0_fillAdds_122 (by omega) (by omega) (fun x28_ e28 => ?_)
          refine r_imul hC dX0_fillAdds_123 (fun x29_ e29 => ?_)
          refine r_bipush hC (v := (100)) dX0_fillAdds_124 (by decide) (by decide) (fun x30_ e30 t30 => ?_)
          refine r_idiv hC dX0_fillAdds_126 (ne_0 (by omega)) (fun x31_ e31 => ?_)
          refine x_iastore hC hk26 hn26 (by decide) rfl rfl dX0_fillAdds_127 (by omega) (by omega) (fun I32 eI32 => ?_)
          have hs32 := hs23.put0 eI32 hk26 (rng_arr (by decide) _) rfl (xF_arr (by decide) _) (by decide)
          have hF32 := hF23.put eI32 hk26 (inS_arr rfl _)
          obtain ⟨x33_, e33⟩ : ∃ z : Int32, z = x23_5 + Int32.ofInt (1) := ⟨_, rfl⟩
          refine r_iinc hC (j := 5) (v := x33_) (lv' := [(5, .int x33_), (0, .ref a0), (1, .ref a1), (2, .ref a2), (3, .ref a3), (4, .int x4)]) dX0_fillAdds_128 rfl (by rw [e33]) (by decide) rfl ?_
          try have t33 : x33_.toInt = x23_5.toInt + (1) := by rw [e33]; exact (ti_add (b := Int32.ofInt (1)) (by show _ ≤ _ + (1 : Int); omega) (by show _ + (1 : Int) ≤ _; omega))
          refine r_goto hC (tgt := 102) dX0_fillAdds_131 (by decide) ?_
          refine r_sub [1, 2, 3, 4, 5, 0] rfl ?_
          exact ih23 ((60 - x33_.toInt).toNat) (by omega) x33_ I32 hs32 hF32 (by omega) (by omega) rfl
      refine r_sub [1, 2, 3, 4, 5, 0] rfl ?_
      exact LP23 _ x22_ I hs hF (by omega) (by omega) rfl
    · refine r_tabIn hC (tgt := 99) (off := 95) dX0_fillAdds_4 (by omega) (by omega) (by rw [o2]; decide) (by decide) ?_
      refine r_iconst hC (v := (0)) dX0_fillAdds_99 (by decide) (by decide) (fun x34_ e34 t34 => ?_)
      refine r_istore hC (lv' := [(5, .int x34_), (0, .ref a0), (1, .ref a1), (2, .ref a2), (3, .ref a3), (4, .int x4)]) dX0_fillAdds_100 (by decide) rfl ?_
      have LP35 : ∀ (mu : Nat) (x35_5 : Int32) (I35 : Nat → Nat → Int32) (hs35 : Sf K len I35 R) (hF35 : Fr K [(54, 999)] I I35) (v35_0 : 0 ≤ x35_5.toInt) (v35_1 : x35_5.toInt ≤ 60), (60 - x35_5.toInt).toNat = mu → P g X 6 102 [(0, .ref a0), (1, .ref a1), (2, .ref a2), (3, .ref a3), (4, .int x4), (5, .int x35_5)] [] 0 0 (K, len, I35, J, R) := by
        intro mu; induction mu using Nat.strongRecOn with | ind mu ih => ?_
        intro x35_5 I35 hs35 hF35 v35_0 v35_1 hmu
        have ih35 := ih
        clear ih
        have hmu35 := hmu
        clear hmu
        refine r_iload hC dX0_fillAdds_102 5 rfl ?_
        refine r_bipush hC (v := (60)) dX0_fillAdds_104 (by decide) (by decide) (fun x36_ e36 t36 => ?_)
        refine r_icmp_ge hC (tgt := 134) dX0_fillAdds_106 (by decide) (fun c37 => ?_) (fun c37 => ?_)
        · exact r_vret hC hQ hlk hr (by decide) (by decide) dX0_fillAdds_134 ⟨_, rfl, rfl, ⟨hs35, hF35⟩⟩
        · refine r_aload_n hC dX0_fillAdds_109 0 rfl ?_
          obtain ⟨a38_, hb38, hk38, hn38⟩ := hs35.row ka0 4 54 60 (by decide) (by decide)
          refine r_getr hC 4 (ci := 0) rfl u0_in (by decide) mT_2_34 dX0_fillAdds_110 ka0 rfl rfl hb38 ?_
          refine r_iload hC dX0_fillAdds_113 5 rfl ?_
          refine r_aload_n hC dX0_fillAdds_115 2 rfl ?_
          refine r_geti hC 2 (ci := 4) rfl u4_in (by decide) mT_1_167 dX0_fillAdds_116 ka2 rfl rfl (fun x39_ e39 => ?_)
          refine r_aload_n hC dX0_fillAdds_119 3 rfl ?_
          refine r_iload hC dX0_fillAdds_120 5 rfl ?_
          refine x_iaload hC ka3 na3 (by decide) rfl rfl dX0_fillAdds_122 (by omega) (by omega) (fun x40_ e40 => ?_)
          refine r_imul hC dX0_fillAdds_123 (fun x41_ e41 => ?_)
          refine r_bipush hC (v := (100)) dX0_fillAdds_124 (by decide) (by decide) (fun x42_ e42 t42 => ?_)
          refine r_idiv hC dX0_fillAdds_126 (ne_0 (by omega)) (fun x43_ e43 => ?_)
          refine x_iastore hC hk38 hn38 (by decide) rfl rfl dX0_fillAdds_127 (by omega) (by omega) (fun I44 eI44 => ?_)
          have hs44 := hs35.put0 eI44 hk38 (rng_arr (by decide) _) rfl (xF_arr (by decide) _) (by decide)
          have hF44 := hF35.put eI44 hk38 (inS_arr rfl _)
          obtain ⟨x45_, e45⟩ : ∃ z : Int32, z = x35_5 + Int32.ofInt (1) := ⟨_, rfl⟩
          refine r_iinc hC (j := 5) (v := x45_) (lv' := [(5, .int x45_), (0, .ref a0), (1, .ref a1), (2, .ref a2), (3, .ref a3), (4, .int x4)]) dX0_fillAdds_128 rfl (by rw [e45]) (by decide) rfl ?_
          try have t45 : x45_.toInt = x35_5.toInt + (1) := by rw [e45]; exact (ti_add (b := Int32.ofInt (1)) (by show _ ≤ _ + (1 : Int); omega) (by show _ + (1 : Int) ≤ _; omega))
          refine r_goto hC (tgt := 102) dX0_fillAdds_131 (by decide) ?_
          refine r_sub [1, 2, 3, 4, 5, 0] rfl ?_
          exact ih35 ((60 - x45_.toInt).toNat) (by omega) x45_ I44 hs44 hF44 (by omega) (by omega) rfl
      refine r_sub [1, 2, 3, 4, 5, 0] rfl ?_
      exact LP35 _ x34_ I hs hF (by omega) (by omega) rfl
    · refine r_tabIn hC (tgt := 75) (off := 71) dX0_fillAdds_4 (by omega) (by omega) (by rw [o2]; decide) (by decide) ?_
      refine r_aload_n hC dX0_fillAdds_75 0 rfl ?_
      refine r_iload hC dX0_fillAdds_76 4 rfl ?_
      refine r_if_eq hC (tgt := 88) dX0_fillAdds_78 (by decide) (fun c46 => ?_) (fun c46 => ?_)
      · refine r_iconst hC (v := (0)) dX0_fillAdds_88 (by decide) (by decide) (fun x47_ e47 t47 => ?_)
        refine r_aload_n hC dX0_fillAdds_89 1 rfl ?_
        obtain ⟨a48_, hb48, hk48, hn48⟩ := hs.row ka1 5 57 60 (by decide) (by decide)
        refine r_getr hC 5 (ci := 1) rfl u1_in (by decide) mT_1_199 dX0_fillAdds_90 ka1 rfl rfl hb48 ?_
        refine r_callV hC (As := [.int x47_, .ref a48_]) (rest := []) (ci := 0) (c_X0_fillByRain g (xL X) K len I J R hs a0 ka0 x47_ a48_ hk48 hn48) mT_3_185 mT_1_8 mT_3_182 mT_3_184 mP_30 okX0_fillByRain ⟨by decide, by decide⟩ rfl (by show kO (K a0) = _; rw [ka0]; rfl) rfl rfl (Nat.le_of_ble_eq_true rfl) ⟨by decide, by decide⟩ dX0_fillAdds_93 (aV1 (F := fun st M => P g X 6 96 [(0, .ref a0), (1, .ref a1), (2, .ref a2), (3, .ref a3), (4, .int x4)] st _ _ M) (M := (K, len, I, J, R)) fun I49 h49 => ?_)
        obtain ⟨hs49, hf49⟩ := h49
        show P g X 6 96 [(0, .ref a0), (1, .ref a1), (2, .ref a2), (3, .ref a3), (4, .int x4)] [] _ _ (K, len, I49, J, R)
        have hF49 : Fr K [(54, 999)] I I49 := hF.trans hf49 rfl rfl
        refine r_goto hC (tgt := 134) dX0_fillAdds_96 (by decide) ?_
        exact r_vret hC hQ hlk hr (by decide) (by decide) dX0_fillAdds_134 ⟨_, rfl, rfl, ⟨hs49, hF49⟩⟩
      · refine r_aload_n hC dX0_fillAdds_81 2 rfl ?_
        refine r_geti hC 2 (ci := 4) rfl u4_in (by decide) mT_1_167 dX0_fillAdds_82 ka2 rfl rfl (fun x50_ e50 => ?_)
        refine r_goto hC (tgt := 89) dX0_fillAdds_85 (by decide) ?_
        refine r_aload_n hC dX0_fillAdds_89 1 rfl ?_
        obtain ⟨a51_, hb51, hk51, hn51⟩ := hs.row ka1 5 57 60 (by decide) (by decide)
        refine r_getr hC 5 (ci := 1) rfl u1_in (by decide) mT_1_199 dX0_fillAdds_90 ka1 rfl rfl hb51 ?_
        refine r_callV hC (As := [.int x50_, .ref a51_]) (rest := []) (ci := 0) (c_X0_fillByRain g (xL X) K len I J R hs a0 ka0 x50_ a51_ hk51 hn51) mT_3_185 mT_1_8 mT_3_182 mT_3_184 mP_30 okX0_fillByRain ⟨by decide, by decide⟩ rfl (by show kO (K a0) = _; rw [ka0]; rfl) rfl rfl (Nat.le_of_ble_eq_true rfl) ⟨by decide, by decide⟩ dX0_fillAdds_93 (aV1 (F := fun st M => P g X 6 96 [(0, .ref a0), (1, .ref a1), (2, .ref a2), (3, .ref a3), (4, .int x4)] st _ _ M) (M := (K, len, I, J, R)) fun I52 h52 => ?_)
        obtain ⟨hs52, hf52⟩ := h52
        show P g X 6 96 [(0, .ref a0), (1, .ref a1), (2, .ref a2), (3, .ref a3), (4, .int x4)] [] _ _ (K, len, I52, J, R)
        have hF52 : Fr K [(54, 999)] I I52 := hF.trans hf52 rfl rfl
        refine r_goto hC (tgt := 134) dX0_fillAdds_96 (by decide) ?_
        exact r_vret hC hQ hlk hr (by decide) (by decide) dX0_fillAdds_134 ⟨_, rfl, rfl, ⟨hs52, hF52⟩⟩
set_option maxHeartbeats 4000000 in
set_option maxRecDepth 100000 in
theorem c_X0_follow (g : GG) (l : Launch) (K len : Nat → Nat) (I : Nat → Nat → Int32) (J : Nat → Nat → Int64) (R : Nat → Nat → Option Nat) (hs : Sf K len I R) (a0 : Nat) (ka0 : K a0 = 1) (a1 : Nat) (ka1 : K a1 = 2) (a2 : Nat) (ka2 : K a2 = 5) (a3 : Nat) (ka3 : K a3 = 41) (na3 : len a3 = 60) (x4 : Int32) : Ct g l yX0_follow cX0_follow 9 (Option.none : Option Jvm.ClassFile.FieldType) rmX0_follow [.ref a0, .ref a1, .ref a2, .ref a3, .int x4] (K, len, I, J, R) (pV1 (K, len, I, J, R) (fun I' => Sf K len I' R ∧ Fr K [(1, 5), (1, 6), (50, 999), (51, 999), (52, 999), (53, 999), (54, 999)] I I')) := by
  refine Ct_intro (by decide +kernel) (Nat.le_of_ble_eq_true rfl) (fun X hC hL hKK hNm hr hlk hQ => ?_)
  subst hL
  have hC : Cx g X cX0_follow "HillTap$Course" 9 rmX0_follow := hC
  show P g X 9 0 [(0, .ref a0), (1, .ref a1), (2, .ref a2), (3, .ref a3), (4, .int x4)] [] 0 0 (K, len, I, J, R)
  have hF : Fr K [(1, 5), (1, 6), (50, 999), (51, 999), (52, 999), (53, 999), (54, 999)] I I := Fr.refl
  have b_x4 := ti_rng x4
  refine r_aload_n hC dX0_follow_0 0 rfl ?_
  refine r_aload_n hC dX0_follow_1 1 rfl ?_
  refine r_aload_n hC dX0_follow_2 2 rfl ?_
  refine r_aload_n hC dX0_follow_3 3 rfl ?_
  refine r_iload hC dX0_follow_4 4 rfl ?_
  refine r_callV hC (As := [.ref a1, .ref a2, .ref a3, .int x4]) (rest := []) (ci := 0) (c_X0_fillAdds g (xL X) K len I J R hs a0 ka0 a1 ka1 a2 ka2 a3 ka3 na3 x4) mT_3_171 mT_1_8 mT_3_168 mT_3_170 mP_27 okX0_fillAdds ⟨by decide, by decide⟩ rfl (by show kO (K a0) = _; rw [ka0]; rfl) rfl rfl (Nat.le_of_ble_eq_true rfl) ⟨by decide, by decide⟩ dX0_follow_6 (aV1 (F := fun st M => P g X 9 9 [(0, .ref a0), (1, .ref a1), (2, .ref a2), (3, .ref a3), (4, .int x4)] st _ _ M) (M := (K, len, I, J, R)) fun I1 h1 => ?_)
  obtain ⟨hs1, hf1⟩ := h1
  show P g X 9 9 [(0, .ref a0), (1, .ref a1), (2, .ref a2), (3, .ref a3), (4, .int x4)] [] _ _ (K, len, I1, J, R)
  have hF1 : Fr K [(1, 5), (1, 6), (50, 999), (51, 999), (52, 999), (53, 999), (54, 999)] I I1 := hF.trans hf1 rfl rfl
  refine r_aload_n hC dX0_follow_9 0 rfl ?_
  refine r_bipush hC (v := (-2)) dX0_follow_10 (by decide) (by decide) (fun x2_ e2 t2 => ?_)
  refine r_puti hC 5 (ci := 0) rfl u0_in tyX0_ok nmX0 (by decide) mT_2_35 rfl rfl rfl dX0_follow_12 ka0 rfl rfl (fun I3 eI3 => ?_)
  have hs3 := hs1.put0 eI3 ka0 rfl rfl rfl (by decide)
  have hF3 := hF1.put eI3 ka0 rfl
  refine r_aload_n hC dX0_follow_15 0 rfl ?_
  refine r_iconst hC (v := (0)) dX0_follow_16 (by decide) (by decide) (fun x4_ e4 t4 => ?_)
  refine r_puti hC 6 (ci := 0) rfl u0_in tyX0_ok nmX0 (by decide) mT_2_37 rfl rfl rfl dX0_follow_17 ka0 rfl rfl (fun I5 eI5 => ?_)
  have hs5 := hs3.put0 eI5 ka0 rfl rfl rfl (by decide)
  have hF5 := hF3.put eI5 ka0 rfl
  refine r_iconst hC (v := (0)) dX0_follow_20 (by decide) (by decide) (fun x6_ e6 t6 => ?_)
  refine r_istore hC (lv' := [(5, .int x6_), (0, .ref a0), (1, .ref a1), (2, .ref a2), (3, .ref a3), (4, .int x4)]) dX0_follow_21 (by decide) rfl ?_
  have LP7 : ∀ (mu : Nat) (x7_5 : Int32) (I7 : Nat → Nat → Int32) (hs7 : Sf K len I7 R) (hF7 : Fr K [(1, 5), (1, 6), (50, 999), (51, 999), (52, 999), (53, 999), (54, 999)] I I7) (v7_0 : 0 ≤ x7_5.toInt) (v7_1 : x7_5.toInt ≤ 60), (60 - x7_5.toInt).toNat = mu → P g X 9 23 [(0, .ref a0), (1, .ref a1), (2, .ref a2), (3, .ref a3), (4, .int x4), (5, .int x7_5)] [] 0 0 (K, len, I7, J, R) := by
    intro mu; induction mu using Nat.strongRecOn with | ind mu ih => ?_
    intro x7_5 I7 hs7 hF7 v7_0 v7_1 hmu
    have ih7 := ih
    clear ih
    have hmu7 := hmu
    clear hmu
    refine r_iload hC dX0_follow_23 5 rfl ?_
    refine r_bipush hC (v := (60)) dX0_follow_25 (by decide) (by decide) (fun x8_ e8 t8 => ?_)
    refine r_icmp_ge hC (tgt := 163) dX0_follow_27 (by decide) (fun c9 => ?_) (fun c9 => ?_)
    · exact r_vret hC hQ hlk hr (by decide) (by decide) dX0_follow_163 ⟨_, rfl, rfl, ⟨hs7, hF7⟩⟩
    · refine r_aload_n hC dX0_follow_30 0 rfl ?_
      obtain ⟨a10_, hb10, hk10, hn10⟩ := hs7.row ka0 3 53 60 (by decide) (by decide)
      refine r_getr hC 3 (ci := 0) rfl u0_in (by decide) mT_2_32 dX0_follow_31 ka0 rfl rfl hb10 ?_
      refine r_iload hC dX0_follow_34 5 rfl ?_
      refine r_iconst hC (v := (0)) dX0_follow_36 (by decide) (by decide) (fun x11_ e11 t11 => ?_)
      refine x_iastore hC hk10 hn10 (by decide) rfl rfl dX0_follow_37 (by omega) (by omega) (fun I12 eI12 => ?_)
      have hs12 := hs7.put0 eI12 hk10 (rng_arr (by decide) _) rfl (xF_arr (by decide) _) (by decide)
      have hF12 := hF7.put eI12 hk10 (inS_arr rfl _)
      refine r_aload_n hC dX0_follow_38 0 rfl ?_
      refine r_geti hC 5 (ci := 0) rfl u0_in (by decide) mT_2_35 dX0_follow_39 ka0 rfl rfl (fun x13_ e13 => ?_)
      refine r_bipush hC (v := (-2)) dX0_follow_42 (by decide) (by decide) (fun x14_ e14 t14 => ?_)
      refine r_icmp_ne hC (tgt := 51) dX0_follow_44 (by decide) (fun c15 => ?_) (fun c15 => ?_)
      · refine r_iconst hC (v := (0)) dX0_follow_51 (by decide) (by decide) (fun x16_ e16 t16 => ?_)
        refine r_istore hC (lv' := [(6, .int x16_), (0, .ref a0), (1, .ref a1), (2, .ref a2), (3, .ref a3), (4, .int x4), (5, .int x7_5)]) dX0_follow_52 (by decide) rfl ?_
        refine r_iconst hC (v := (0)) dX0_follow_54 (by decide) (by decide) (fun x17_ e17 t17 => ?_)
        refine r_istore hC (lv' := [(7, .int x17_), (6, .int x16_), (0, .ref a0), (1, .ref a1), (2, .ref a2), (3, .ref a3), (4, .int x4), (5, .int x7_5)]) dX0_follow_55 (by decide) rfl ?_
        have LP18 : ∀ (mu : Nat) (x18_7 : Int32) (I18 : Nat → Nat → Int32) (hs18 : Sf K len I18 R) (hF18 : Fr K [(1, 5), (1, 6), (50, 999), (51, 999), (52, 999), (53, 999), (54, 999)] I I18) (v18_0 : 0 ≤ x18_7.toInt) (v18_1 : x18_7.toInt ≤ 5), (5 - x18_7.toInt).toNat = mu → P g X 9 57 [(0, .ref a0), (1, .ref a1), (2, .ref a2), (3, .ref a3), (4, .int x4), (5, .int x7_5), (6, .int x16_), (7, .int x18_7)] [] 0 0 (K, len, I18, J, R) := by
          intro mu; induction mu using Nat.strongRecOn with | ind mu ih => ?_
          intro x18_7 I18 hs18 hF18 v18_0 v18_1 hmu
          have ih18 := ih
          clear ih
          have hmu18 := hmu
          clear hmu
          refine r_iload hC dX0_follow_57 7 rfl ?_
          refine r_aload_n hC dX0_follow_59 1 rfl ?_
          refine r_geti hC 1 (ci := 1) rfl u1_in (by decide) mT_1_185 dX0_follow_60 ka1 rfl rfl (fun x19_ e19 => ?_)
          have r19 := hs18.rng ka1 rfl e19
          refine r_icmp_ge hC (tgt := 129) dX0_follow_63 (by decide) (fun c20 => ?_) (fun c20 => ?_)
          · refine r_aload_n hC dX0_follow_129 0 rfl ?_
            refine r_geti hC 5 (ci := 0) rfl u0_in (by decide) mT_2_35 dX0_follow_130 ka0 rfl rfl (fun x21_ e21 => ?_)
            refine r_iload hC dX0_follow_133 5 rfl ?_
            refine r_icmp_ne hC (tgt := 157) dX0_follow_135 (by decide) (fun c22 => ?_) (fun c22 => ?_)
            · obtain ⟨x23_, e23⟩ : ∃ z : Int32, z = x7_5 + Int32.ofInt (1) := ⟨_, rfl⟩
              refine r_iinc hC (j := 5) (v := x23_) (lv' := [(5, .int x23_), (0, .ref a0), (1, .ref a1), (2, .ref a2), (3, .ref a3), (4, .int x4), (6, .int x16_), (7, .int x18_7)]) dX0_follow_157 rfl (by rw [e23]) (by decide) rfl ?_
              try have t23 : x23_.toInt = x7_5.toInt + (1) := by rw [e23]; exact (ti_add (b := Int32.ofInt (1)) (by show _ ≤ _ + (1 : Int); omega) (by show _ + (1 : Int) ≤ _; omega))
              refine r_goto hC (tgt := 23) dX0_follow_160 (by decide) ?_
              refine r_sub [1, 2, 3, 4, 5, 0] rfl ?_
              exact ih7 ((60 - x23_.toInt).toNat) (by omega) x23_ I18 hs18 hF18 (by omega) (by omega) rfl
            · refine r_aload_n hC dX0_follow_138 0 rfl ?_
              refine r_aload_n hC dX0_follow_139 0 rfl ?_
              refine r_getr hC 3 (ci := 0) rfl u0_in (by decide) mT_2_32 dX0_follow_140 ka0 rfl rfl hb10 ?_
              refine r_iload hC dX0_follow_143 5 rfl ?_
              refine x_iaload hC hk10 hn10 (by decide) rfl rfl dX0_follow_145 (by omega) (by omega) (fun x24_ e24 => ?_)
              refine r_aload_n hC dX0_follow_146 3 rfl ?_
              refine r_iload hC dX0_follow_147 5 rfl ?_
              refine x_iaload hC ka3 na3 (by decide) rfl rfl dX0_follow_149 (by omega) (by omega) (fun x25_ e25 => ?_)
              refine r_imul hC dX0_follow_150 (fun x26_ e26 => ?_)
              refine r_bipush hC (v := (100)) dX0_follow_151 (by decide) (by decide) (fun x27_ e27 t27 => ?_)
              refine r_idiv hC dX0_follow_153 (ne_0 (by omega)) (fun x28_ e28 => ?_)
              refine r_puti hC 6 (ci := 0) rfl u0_in tyX0_ok nmX0 (by decide) mT_2_37 rfl rfl rfl dX0_follow_154 ka0 rfl rfl (fun I29 eI29 => ?_)
              have hs29 := hs18.put0 eI29 ka0 rfl rfl rfl (by decide)
              have hF29 := hF18.put eI29 ka0 rfl
              obtain ⟨x30_, e30⟩ : ∃ z : Int32, z = x7_5 + Int32.ofInt (1) := ⟨_, rfl⟩
              refine r_iinc hC (j := 5) (v := x30_) (lv' := [(5, .int x30_), (0, .ref a0), (1, .ref a1), (2, .ref a2), (3, .ref a3), (4, .int x4), (6, .int x16_), (7, .int x18_7)]) dX0_follow_157 rfl (by rw [e30]) (by decide) rfl ?_
              try have t30 : x30_.toInt = x7_5.toInt + (1) := by rw [e30]; exact (ti_add (b := Int32.ofInt (1)) (by show _ ≤ _ + (1 : Int); omega) (by show _ + (1 : Int) ≤ _; omega))
              refine r_goto hC (tgt := 23) dX0_follow_160 (by decide) ?_
              refine r_sub [1, 2, 3, 4, 5, 0] rfl ?_
              exact ih7 ((60 - x30_.toInt).toNat) (by omega) x30_ I29 hs29 hF29 (by omega) (by omega) rfl
          · refine r_iload hC dX0_follow_66 6 rfl ?_
            refine r_if_eq hC (tgt := 84) dX0_follow_68 (by decide) (fun c31 => ?_) (fun c31 => ?_)
            rotate_left
            · exfalso; omega
            refine r_iconst hC (v := (0)) dX0_follow_84 (by decide) (by decide) (fun x32_ e32 t32 => ?_)
            refine r_istore hC (lv' := [(8, .int x32_), (0, .ref a0), (1, .ref a1), (2, .ref a2), (3, .ref a3), (4, .int x4), (5, .int x7_5), (6, .int x16_), (7, .int x18_7)]) dX0_follow_85 (by decide) rfl ?_
            refine r_aload_n hC dX0_follow_87 1 rfl ?_
            refine r_iload hC dX0_follow_88 0 rfl ?_
            refine r_aload_n hC dX0_follow_90 3 rfl ?_
            refine r_iload hC dX0_follow_91 8 rfl ?_
            refine r_iload hC dX0_follow_93 6 rfl ?_
            refine r_callV hC (As := [.int x32_, .ref a2, .int x18_7, .int x7_5]) (rest := []) (ci := 0) (c_X0_creepBy g (xL X) K len I18 J R hs18 a0 ka0 x32_ a2 ka2 x18_7 x7_5 (by omega) (by omega) (by omega) (by omega)) mT_3_196 mT_1_8 mT_3_193 mT_3_195 mP_32 okX0_creepBy ⟨by decide, by decide⟩ rfl (by show kO (K a0) = _; rw [ka0]; rfl) rfl rfl (Nat.le_of_ble_eq_true rfl) ⟨by decide, by decide⟩ dX0_follow_95 (aV1 (F := fun st M => P g X 9 98 [(8, .int x32_), (0, .ref a0), (1, .ref a1), (2, .ref a2), (3, .ref a3), (4, .int x4), (5, .int x7_5), (6, .int x16_), (7, .int x18_7)] st _ _ M) (M := (K, len, I18, J, R)) fun I33 h33 => ?_)
            obtain ⟨hs33, hf33⟩ := h33
            show P g X 9 98 [(8, .int x32_), (0, .ref a0), (1, .ref a1), (2, .ref a2), (3, .ref a3), (4, .int x4), (5, .int x7_5), (6, .int x16_), (7, .int x18_7)] [] _ _ (K, len, I33, J, R)
            have hF33 : Fr K [(1, 5), (1, 6), (50, 999), (51, 999), (52, 999), (53, 999), (54, 999)] I I33 := hF18.trans hf33 rfl rfl
            refine r_aload_n hC dX0_follow_98 1 rfl ?_
            refine r_getr hC 3 (ci := 0) rfl u0_in (by decide) mT_2_32 dX0_follow_99 ka0 rfl rfl hb10 ?_
            refine r_iload hC dX0_follow_102 6 rfl ?_
            refine r_dup2 hC dX0_follow_104 rfl rfl ?_
            refine x_iaload hC hk10 hn10 (by decide) rfl rfl dX0_follow_105 (by omega) (by omega) (fun x34_ e34 => ?_)
            refine r_iload hC dX0_follow_106 0 rfl ?_
            refine r_iadd hC dX0_follow_108 (fun x35_ e35 => ?_)
            try have t35 : x35_.toInt = x34_.toInt + x32_.toInt := by rw [e35]; exact ti_add (by omega) (by omega)
            refine x_iastore hC hk10 hn10 (by decide) rfl rfl dX0_follow_109 (by omega) (by omega) (fun I36 eI36 => ?_)
            have hs36 := hs33.put0 eI36 hk10 (rng_arr (by decide) _) rfl (xF_arr (by decide) _) (by decide)
            have hF36 := hF33.put eI36 hk10 (inS_arr rfl _)
            refine r_iload hC dX0_follow_110 0 rfl ?_
            refine r_bipush hC (v := (100)) dX0_follow_112 (by decide) (by decide) (fun x37_ e37 t37 => ?_)
            refine r_icmp_lt hC (tgt := 123) dX0_follow_114 (by decide) (fun c38 => ?_) (fun c38 => ?_)
            rotate_left
            · exfalso; omega
            obtain ⟨x39_, e39⟩ : ∃ z : Int32, z = x18_7 + Int32.ofInt (1) := ⟨_, rfl⟩
            refine r_iinc hC (j := 8) (v := x39_) (lv' := [(7, .int x39_), (8, .int x32_), (0, .ref a0), (1, .ref a1), (2, .ref a2), (3, .ref a3), (4, .int x4), (5, .int x7_5), (6, .int x16_)]) dX0_follow_123 rfl (by rw [e39]) (by decide) rfl ?_
            try have t39 : x39_.toInt = x18_7.toInt + (1) := by rw [e39]; exact (ti_add (b := Int32.ofInt (1)) (by show _ ≤ _ + (1 : Int); omega) (by show _ + (1 : Int) ≤ _; omega))
            refine r_goto hC (tgt := 57) dX0_follow_126 (by decide) ?_
            refine r_sub [2, 3, 4, 5, 6, 7, 8, 0] rfl ?_
            exact ih18 ((5 - x39_.toInt).toNat) (by omega) x39_ I36 hs36 hF36 (by omega) (by omega) rfl
        refine r_sub [2, 3, 4, 5, 6, 7, 1, 0] rfl ?_
        exact LP18 _ x17_ I12 hs12 hF12 (by omega) (by omega) rfl
      · refine r_iconst hC (v := (1)) dX0_follow_47 (by decide) (by decide) (fun x40_ e40 t40 => ?_)
        refine r_goto hC (tgt := 52) dX0_follow_48 (by decide) ?_
        refine r_istore hC (lv' := [(6, .int x40_), (0, .ref a0), (1, .ref a1), (2, .ref a2), (3, .ref a3), (4, .int x4), (5, .int x7_5)]) dX0_follow_52 (by decide) rfl ?_
        refine r_iconst hC (v := (0)) dX0_follow_54 (by decide) (by decide) (fun x41_ e41 t41 => ?_)
        refine r_istore hC (lv' := [(7, .int x41_), (6, .int x40_), (0, .ref a0), (1, .ref a1), (2, .ref a2), (3, .ref a3), (4, .int x4), (5, .int x7_5)]) dX0_follow_55 (by decide) rfl ?_
        have LP42 : ∀ (mu : Nat) (x42_7 : Int32) (I42 : Nat → Nat → Int32) (hs42 : Sf K len I42 R) (hF42 : Fr K [(1, 5), (1, 6), (50, 999), (51, 999), (52, 999), (53, 999), (54, 999)] I I42) (v42_0 : 0 ≤ x42_7.toInt) (v42_1 : x42_7.toInt ≤ 5), (5 - x42_7.toInt).toNat = mu → P g X 9 57 [(0, .ref a0), (1, .ref a1), (2, .ref a2), (3, .ref a3), (4, .int x4), (5, .int x7_5), (6, .int x40_), (7, .int x42_7)] [] 0 0 (K, len, I42, J, R) := by
          intro mu; induction mu using Nat.strongRecOn with | ind mu ih => ?_
          intro x42_7 I42 hs42 hF42 v42_0 v42_1 hmu
          have ih42 := ih
          clear ih
          have hmu42 := hmu
          clear hmu
          refine r_iload hC dX0_follow_57 7 rfl ?_
          refine r_aload_n hC dX0_follow_59 1 rfl ?_
          refine r_geti hC 1 (ci := 1) rfl u1_in (by decide) mT_1_185 dX0_follow_60 ka1 rfl rfl (fun x43_ e43 => ?_)
          have r43 := hs42.rng ka1 rfl e43
          refine r_icmp_ge hC (tgt := 129) dX0_follow_63 (by decide) (fun c44 => ?_) (fun c44 => ?_)
          · refine r_aload_n hC dX0_follow_129 0 rfl ?_
            refine r_geti hC 5 (ci := 0) rfl u0_in (by decide) mT_2_35 dX0_follow_130 ka0 rfl rfl (fun x45_ e45 => ?_)
            refine r_iload hC dX0_follow_133 5 rfl ?_
            refine r_icmp_ne hC (tgt := 157) dX0_follow_135 (by decide) (fun c46 => ?_) (fun c46 => ?_)
            · obtain ⟨x47_, e47⟩ : ∃ z : Int32, z = x7_5 + Int32.ofInt (1) := ⟨_, rfl⟩
              refine r_iinc hC (j := 5) (v := x47_) (lv' := [(5, .int x47_), (0, .ref a0), (1, .ref a1), (2, .ref a2), (3, .ref a3), (4, .int x4), (6, .int x40_), (7, .int x42_7)]) dX0_follow_157 rfl (by rw [e47]) (by decide) rfl ?_
              try have t47 : x47_.toInt = x7_5.toInt + (1) := by rw [e47]; exact (ti_add (b := Int32.ofInt (1)) (by show _ ≤ _ + (1 : Int); omega) (by show _ + (1 : Int) ≤ _; omega))
              refine r_goto hC (tgt := 23) dX0_follow_160 (by decide) ?_
              refine r_sub [1, 2, 3, 4, 5, 0] rfl ?_
              exact ih7 ((60 - x47_.toInt).toNat) (by omega) x47_ I42 hs42 hF42 (by omega) (by omega) rfl
            · refine r_aload_n hC dX0_follow_138 0 rfl ?_
              refine r_aload_n hC dX0_follow_139 0 rfl ?_
              refine r_getr hC 3 (ci := 0) rfl u0_in (by decide) mT_2_32 dX0_follow_140 ka0 rfl rfl hb10 ?_
              refine r_iload hC dX0_follow_143 5 rfl ?_
              refine x_iaload hC hk10 hn10 (by decide) rfl rfl dX0_follow_145 (by omega) (by omega) (fun x48_ e48 => ?_)
              refine r_aload_n hC dX0_follow_146 3 rfl ?_
              refine r_iload hC dX0_follow_147 5 rfl ?_
              refine x_iaload hC ka3 na3 (by decide) rfl rfl dX0_follow_149 (by omega) (by omega) (fun x49_ e49 => ?_)
              refine r_imul hC dX0_follow_150 (fun x50_ e50 => ?_)
              refine r_bipush hC (v := (100)) dX0_follow_151 (by decide) (by decide) (fun x51_ e51 t51 => ?_)
              refine r_idiv hC dX0_follow_153 (ne_0 (by omega)) (fun x52_ e52 => ?_)
              refine r_puti hC 6 (ci := 0) rfl u0_in tyX0_ok nmX0 (by decide) mT_2_37 rfl rfl rfl dX0_follow_154 ka0 rfl rfl (fun I53 eI53 => ?_)
              have hs53 := hs42.put0 eI53 ka0 rfl rfl rfl (by decide)
              have hF53 := hF42.put eI53 ka0 rfl
              obtain ⟨x54_, e54⟩ : ∃ z : Int32, z = x7_5 + Int32.ofInt (1) := ⟨_, rfl⟩
              refine r_iinc hC (j := 5) (v := x54_) (lv' := [(5, .int x54_), (0, .ref a0), (1, .ref a1), (2, .ref a2), (3, .ref a3), (4, .int x4), (6, .int x40_), (7, .int x42_7)]) dX0_follow_157 rfl (by rw [e54]) (by decide) rfl ?_
              try have t54 : x54_.toInt = x7_5.toInt + (1) := by rw [e54]; exact (ti_add (b := Int32.ofInt (1)) (by show _ ≤ _ + (1 : Int); omega) (by show _ + (1 : Int) ≤ _; omega))
              refine r_goto hC (tgt := 23) dX0_follow_160 (by decide) ?_
              refine r_sub [1, 2, 3, 4, 5, 0] rfl ?_
              exact ih7 ((60 - x54_.toInt).toNat) (by omega) x54_ I53 hs53 hF53 (by omega) (by omega) rfl
          · refine r_iload hC dX0_follow_66 6 rfl ?_
            refine r_if_eq hC (tgt := 84) dX0_follow_68 (by decide) (fun c55 => ?_) (fun c55 => ?_)
            · exfalso; omega
            refine r_aload_n hC dX0_follow_71 0 rfl ?_
            refine r_aload_n hC dX0_follow_72 1 rfl ?_
            refine r_aload_n hC dX0_follow_73 2 rfl ?_
            refine r_iload hC dX0_follow_74 7 rfl ?_
            refine r_iload hC dX0_follow_76 5 rfl ?_
            refine r_callV hC (As := [.ref a1, .ref a2, .int x42_7, .int x7_5]) (rest := []) (ci := 0) (c_X0_speedOf g (xL X) K len I42 J R hs42 a0 ka0 a1 ka1 a2 ka2 x42_7 x7_5 (by omega) (by omega) (by omega) (by omega)) mT_3_189 mT_1_8 mT_3_186 mT_3_188 mP_31 okX0_speedOf ⟨by decide, by decide⟩ rfl (by show kO (K a0) = _; rw [ka0]; rfl) rfl rfl (Nat.le_of_ble_eq_true rfl) ⟨by decide, by decide⟩ dX0_follow_78 (aI0 (F := fun st M => P g X 9 81 [(0, .ref a0), (1, .ref a1), (2, .ref a2), (3, .ref a3), (4, .int x4), (5, .int x7_5), (6, .int x40_), (7, .int x42_7)] st _ _ M) (M := (K, len, I42, J, R)) fun x56_ h56 => ?_)
            skip
            show P g X 9 81 [(0, .ref a0), (1, .ref a1), (2, .ref a2), (3, .ref a3), (4, .int x4), (5, .int x7_5), (6, .int x40_), (7, .int x42_7)] [.int x56_] _ _ (K, len, I42, J, R)
            refine r_goto hC (tgt := 85) dX0_follow_81 (by decide) ?_
            refine r_istore hC (lv' := [(8, .int x56_), (0, .ref a0), (1, .ref a1), (2, .ref a2), (3, .ref a3), (4, .int x4), (5, .int x7_5), (6, .int x40_), (7, .int x42_7)]) dX0_follow_85 (by decide) rfl ?_
            refine r_aload_n hC dX0_follow_87 1 rfl ?_
            refine r_iload hC dX0_follow_88 0 rfl ?_
            refine r_aload_n hC dX0_follow_90 3 rfl ?_
            refine r_iload hC dX0_follow_91 8 rfl ?_
            refine r_iload hC dX0_follow_93 6 rfl ?_
            refine r_callV hC (As := [.int x56_, .ref a2, .int x42_7, .int x7_5]) (rest := []) (ci := 0) (c_X0_creepBy g (xL X) K len I42 J R hs42 a0 ka0 x56_ a2 ka2 x42_7 x7_5 (by omega) (by omega) (by omega) (by omega)) mT_3_196 mT_1_8 mT_3_193 mT_3_195 mP_32 okX0_creepBy ⟨by decide, by decide⟩ rfl (by show kO (K a0) = _; rw [ka0]; rfl) rfl rfl (Nat.le_of_ble_eq_true rfl) ⟨by decide, by decide⟩ dX0_follow_95 (aV1 (F := fun st M => P g X 9 98 [(8, .int x56_), (0, .ref a0), (1, .ref a1), (2, .ref a2), (3, .ref a3), (4, .int x4), (5, .int x7_5), (6, .int x40_), (7, .int x42_7)] st _ _ M) (M := (K, len, I42, J, R)) fun I57 h57 => ?_)
            obtain ⟨hs57, hf57⟩ := h57
            show P g X 9 98 [(8, .int x56_), (0, .ref a0), (1, .ref a1), (2, .ref a2), (3, .ref a3), (4, .int x4), (5, .int x7_5), (6, .int x40_), (7, .int x42_7)] [] _ _ (K, len, I57, J, R)
            have hF57 : Fr K [(1, 5), (1, 6), (50, 999), (51, 999), (52, 999), (53, 999), (54, 999)] I I57 := hF42.trans hf57 rfl rfl
            refine r_aload_n hC dX0_follow_98 1 rfl ?_
            refine r_getr hC 3 (ci := 0) rfl u0_in (by decide) mT_2_32 dX0_follow_99 ka0 rfl rfl hb10 ?_
            refine r_iload hC dX0_follow_102 6 rfl ?_
            refine r_dup2 hC dX0_follow_104 rfl rfl ?_
            refine x_iaload hC hk10 hn10 (by decide) rfl rfl dX0_follow_105 (by omega) (by omega) (fun x58_ e58 => ?_)
            refine r_iload hC dX0_follow_106 0 rfl ?_
            refine r_iadd hC dX0_follow_108 (fun x59_ e59 => ?_)
            try have t59 : x59_.toInt = x58_.toInt + x56_.toInt := by rw [e59]; exact ti_add (by omega) (by omega)
            refine x_iastore hC hk10 hn10 (by decide) rfl rfl dX0_follow_109 (by omega) (by omega) (fun I60 eI60 => ?_)
            have hs60 := hs57.put0 eI60 hk10 (rng_arr (by decide) _) rfl (xF_arr (by decide) _) (by decide)
            have hF60 := hF57.put eI60 hk10 (inS_arr rfl _)
            refine r_iload hC dX0_follow_110 0 rfl ?_
            refine r_bipush hC (v := (100)) dX0_follow_112 (by decide) (by decide) (fun x61_ e61 t61 => ?_)
            refine r_icmp_lt hC (tgt := 123) dX0_follow_114 (by decide) (fun c62 => ?_) (fun c62 => ?_)
            · obtain ⟨x63_, e63⟩ : ∃ z : Int32, z = x42_7 + Int32.ofInt (1) := ⟨_, rfl⟩
              refine r_iinc hC (j := 8) (v := x63_) (lv' := [(7, .int x63_), (8, .int x56_), (0, .ref a0), (1, .ref a1), (2, .ref a2), (3, .ref a3), (4, .int x4), (5, .int x7_5), (6, .int x40_)]) dX0_follow_123 rfl (by rw [e63]) (by decide) rfl ?_
              try have t63 : x63_.toInt = x42_7.toInt + (1) := by rw [e63]; exact (ti_add (b := Int32.ofInt (1)) (by show _ ≤ _ + (1 : Int); omega) (by show _ + (1 : Int) ≤ _; omega))
              refine r_goto hC (tgt := 57) dX0_follow_126 (by decide) ?_
              refine r_sub [2, 3, 4, 5, 6, 7, 8, 0] rfl ?_
              exact ih42 ((5 - x63_.toInt).toNat) (by omega) x63_ I60 hs60 hF60 (by omega) (by omega) rfl
            · refine r_aload_n hC dX0_follow_117 1 rfl ?_
              refine r_iload hC dX0_follow_118 6 rfl ?_
              refine r_puti hC 5 (ci := 0) rfl u0_in tyX0_ok nmX0 (by decide) mT_2_35 rfl rfl rfl dX0_follow_120 ka0 rfl rfl (fun I64 eI64 => ?_)
              have hs64 := hs60.put0 eI64 ka0 rfl rfl rfl (by decide)
              have hF64 := hF60.put eI64 ka0 rfl
              obtain ⟨x65_, e65⟩ : ∃ z : Int32, z = x42_7 + Int32.ofInt (1) := ⟨_, rfl⟩
              refine r_iinc hC (j := 8) (v := x65_) (lv' := [(7, .int x65_), (8, .int x56_), (0, .ref a0), (1, .ref a1), (2, .ref a2), (3, .ref a3), (4, .int x4), (5, .int x7_5), (6, .int x40_)]) dX0_follow_123 rfl (by rw [e65]) (by decide) rfl ?_
              try have t65 : x65_.toInt = x42_7.toInt + (1) := by rw [e65]; exact (ti_add (b := Int32.ofInt (1)) (by show _ ≤ _ + (1 : Int); omega) (by show _ + (1 : Int) ≤ _; omega))
              refine r_goto hC (tgt := 57) dX0_follow_126 (by decide) ?_
              refine r_sub [2, 3, 4, 5, 6, 7, 8, 0] rfl ?_
              exact ih42 ((5 - x65_.toInt).toNat) (by omega) x65_ I64 hs64 hF64 (by omega) (by omega) rfl
        refine r_sub [2, 3, 4, 5, 6, 7, 1, 0] rfl ?_
        exact LP42 _ x41_ I12 hs12 hF12 (by omega) (by omega) rfl
  refine r_sub [1, 2, 3, 4, 5, 0] rfl ?_
  exact LP7 _ x6_ I5 hs5 hF5 (by omega) (by omega) rfl

