section SF3
variable {K len : Nat → Nat} {I I' I1 : Nat → Nat → Int32} {R R' : Nat → Nat → Option Nat} {a : Nat} {v w : Int32}
theorem Sf.put345 (h : Sf K len I R) (e1 : I1 = up2 I a 4 v) (e : I' = up2 I1 a 5 w) (hk : K a = 3) (h0 : 0 ≤ v.toInt) (h1 : v.toInt ≤ 16) (g0 : 0 ≤ w.toInt) (g1 : w.toInt ≤ 16) (h2 : w.toInt ≤ v.toInt) : Sf K len I' R := by
  refine ⟨h.1, h.2.1, h.2.2.1, (h.2.2.2.1.put e1 hk (fun lo hi z => by cases z; exact ⟨h0, h1⟩)).put e hk (fun lo hi z => by cases z; exact ⟨g0, g1⟩), (h.2.2.2.2.1.put e1 hk (fun lo hi z => by cases z)).put e hk (fun lo hi z => by cases z), ⟨fun b hb => ?_, fun b hb => ?_, fun b hb => ?_, fun b kd mo hb g1 g2 j => ?_⟩⟩
  · by_cases hba : b = a
    · subst hba; rw [e, up2_self, up2_ne _ _ (Or.inr (by decide)), e1, up2_self]; exact h2
    · rw [up2_at (Or.inl hba) e, up2_at (Or.inl hba) e1, up2_at (Or.inl hba) e, up2_at (Or.inl hba) e1]; exact h.2.2.2.2.2.1 b hb
  · rw [up2_kk e hk hb (by decide), up2_kk e1 hk hb (by decide), up2_kk e hk hb (by decide), up2_kk e1 hk hb (by decide)]; exact h.2.2.2.2.2.2.1 b hb
  · rw [up2_kk e hk hb (by decide), up2_kk e1 hk hb (by decide)]; exact h.2.2.2.2.2.2.2.1 b hb
  · have z1 := h.2.2.1.kd hb g1; have z2 := h.2.2.1.mo hb g2; rw [up2_kk e hk hb (by decide), up2_kk e1 hk hb (by decide), up2_kk e hk z1 (by omega), up2_kk e1 hk z1 (by omega), up2_kk e hk z2 (by omega), up2_kk e1 hk z2 (by omega)]; exact h.2.2.2.2.2.2.2.2 b kd mo hb g1 g2 j
theorem r_kk {k q r b j t : Nat} (e : R' = up2 R a k (some t)) (hk : K a = q) (hb : K b = r) (h : r ≠ q) : R' b j = R b j := by
  rw [e, up2_ne _ _ (Or.inl fun z => h (by rw [← hb, ← hk, z]))]
/-- the class's hill and spare -/
theorem Sf.putR9 (h : Sf K len I R) {k t : Nat} (e : R' = up2 R a k (some t)) (hk : K a = 9) (hk2 : k = 2 ∨ k = 3) (ht : K t = 2) : Sf K len I R' := by
  refine ⟨fun b en hen => ?_, ⟨fun b hb j hj => ?_, fun b hb j hj => ?_, fun b hb => ?_, fun b hb => ?_⟩, fun b hb => ?_, h.2.2.2.1, h.2.2.2.2.1, h.2.2.2.2.2.1, h.2.2.2.2.2.2.1, h.2.2.2.2.2.2.2.1, fun b kd mo hb g1 g2 => ?_⟩
  · by_cases hba : b = a ∧ en.1 = k
    · obtain ⟨rfl, h2⟩ := hba
      refine ⟨t, by rw [e, h2, up2_self], ?_⟩
      rw [hk] at hen
      have : ∀ en ∈ refT 9, (en.1 = 2 ∨ en.1 = 3) → en.2.1 = 2 ∧ en.2.2 = 0 := by decide
      obtain ⟨g1, g2⟩ := this en hen (by rw [h2]; exact hk2)
      exact ⟨by rw [ht, g1], fun z => absurd g2 z⟩
    · obtain ⟨c, h1, h2⟩ := h.1 b en hen
      refine ⟨c, ?_, h2⟩
      rw [e, up2_ne _ _ ?_]
      · exact h1
      · by_cases z : b = a
        · exact Or.inr fun y => hba ⟨z, y⟩
        · exact Or.inl z
  · rw [r_kk e hk hb (by decide)]; exact h.2.1.1 b hb j hj
  · rw [r_kk e hk hb (by decide)]; exact h.2.1.2.1 b hb j hj
  · rw [r_kk e hk hb (by decide)]; exact h.2.1.2.2.1 b hb
  · rw [r_kk e hk hb (by decide)]; exact h.2.1.2.2.2 b hb
  · rw [r_kk e hk hb (by decide), r_kk e hk hb (by decide)]; exact h.2.2.1 b hb
  · rw [r_kk e hk hb (by decide)] at g1 g2; exact h.2.2.2.2.2.2.2.2 b kd mo hb g1 g2
/-- the reference's hill and reading -/
theorem Sf.putR11 (h : Sf K len I R) {k t : Nat} (e : R' = up2 R a k (some t)) (hk : K a = 11) (hk2 : k = 3 ∨ k = 4) (ht : K t = 10) : Sf K len I R' := by
  refine ⟨fun b en hen => ?_, ⟨fun b hb j hj => ?_, fun b hb j hj => ?_, fun b hb => ?_, fun b hb => ?_⟩, fun b hb => ?_, h.2.2.2.1, h.2.2.2.2.1, h.2.2.2.2.2.1, h.2.2.2.2.2.2.1, h.2.2.2.2.2.2.2.1, fun b kd mo hb g1 g2 => ?_⟩
  · obtain ⟨c, h1, h2⟩ := h.1 b en hen
    refine ⟨c, ?_, h2⟩
    by_cases hba : b = a ∧ en.1 = k
    · obtain ⟨rfl, h3⟩ := hba
      rw [hk] at hen
      have : ∀ en ∈ refT 11, ¬ (en.1 = 3 ∨ en.1 = 4) := by decide
      exact absurd (by rw [h3]; exact hk2) (this en hen)
    · rw [e, up2_ne _ _ ?_]
      · exact h1
      · by_cases z : b = a
        · exact Or.inr fun y => hba ⟨z, y⟩
        · exact Or.inl z
  · rw [r_kk e hk hb (by decide)]; exact h.2.1.1 b hb j hj
  · rw [r_kk e hk hb (by decide)]; exact h.2.1.2.1 b hb j hj
  · by_cases z : b = a ∧ 3 = k
    · obtain ⟨rfl, rfl⟩ := z; exact Or.inr ⟨t, by rw [e, up2_self], ht⟩
    · rw [e, up2_ne _ _ (by by_cases y : b = a; exact Or.inr fun x => z ⟨y, x⟩; exact Or.inl y)]; exact h.2.1.2.2.1 b hb
  · by_cases z : b = a ∧ 4 = k
    · obtain ⟨rfl, rfl⟩ := z; exact Or.inr ⟨t, by rw [e, up2_self], ht⟩
    · rw [e, up2_ne _ _ (by by_cases y : b = a; exact Or.inr fun x => z ⟨y, x⟩; exact Or.inl y)]; exact h.2.1.2.2.2 b hb
  · rw [r_kk e hk hb (by decide), r_kk e hk hb (by decide)]; exact h.2.2.1 b hb
  · rw [r_kk e hk hb (by decide)] at g1 g2; exact h.2.2.2.2.2.2.2.2 b kd mo hb g1 g2
end SF3
def pI3 (M : MM) (Q : Int32 → (Nat → Nat → Int32) → (Nat → Nat → Int64) → (Nat → Nat → Option Nat) → Prop) : Option Value → MM → Prop := fun v M' => ∃ (r : Int32) (I' : Nat → Nat → Int32) (J' : Nat → Nat → Int64) (R' : Nat → Nat → Option Nat), v = some (.int r) ∧ M' = (M.1, M.2.1, I', J', R') ∧ Q r I' J' R'
theorem aI3 {F : List Value → MM → Prop} {rest : List Value} {M : MM} {Q : Int32 → (Nat → Nat → Int32) → (Nat → Nat → Int64) → (Nat → Nat → Option Nat) → Prop} (k : ∀ r I' J' R', Q r I' J' R' → F (.int r :: rest) (M.1, M.2.1, I', J', R')) : ∀ v M', pI3 M Q v M' → F (v.toList ++ rest) M' := by rintro v M' ⟨r, I', J', R', rfl, rfl, h⟩; exact k r I' J' R' h

abbrev rmX2_addFrom : Room := { frames := 0, cells := 0, slots := 0, locals := 0 }
abbrev rmX2_empty : Room := { frames := 0, cells := 0, slots := 0, locals := 0 }
abbrev rmX1_empty : Room := { frames := 1, cells := 0, slots := 0, locals := 23 }
abbrev rmX8_row : Room := { frames := 0, cells := 0, slots := 0, locals := 0 }
abbrev rmX3_add : Room := { frames := 0, cells := 0, slots := 0, locals := 0 }
abbrev rmX3_firstMisfit : Room := { frames := 1, cells := 0, slots := 0, locals := 21 }
abbrev rmX3_firstDayOf : Room := { frames := 1, cells := 0, slots := 0, locals := 21 }
abbrev rmX0_togetherAhead : Room := { frames := 0, cells := 0, slots := 0, locals := 0 }
abbrev rmX0_heldFrom : Room := { frames := 1, cells := 0, slots := 0, locals := 21 }
abbrev rmX0_speedOf : Room := { frames := 1, cells := 0, slots := 0, locals := 21 }
abbrev rmX0_creepBy : Room := { frames := 1, cells := 0, slots := 0, locals := 21 }
abbrev rmX0_fillByRise : Room := { frames := 1, cells := 0, slots := 0, locals := 21 }
abbrev rmX0_fillByMean : Room := { frames := 1, cells := 0, slots := 0, locals := 21 }
abbrev rmX0_fillByRain : Room := { frames := 0, cells := 0, slots := 0, locals := 0 }
abbrev rmX0_fillAdds : Room := { frames := 2, cells := 0, slots := 0, locals := 47 }
abbrev rmX0_follow : Room := { frames := 3, cells := 0, slots := 0, locals := 72 }
set_option maxHeartbeats 4000000 in
set_option maxRecDepth 100000 in
theorem c_X8_row (g : GG) (l : Launch) (K len : Nat → Nat) (I : Nat → Nat → Int32) (J : Nat → Nat → Int64) (R : Nat → Nat → Option Nat) (hs : Sf K len I R) (x0 : Int32) (x1 : Int32) (p0 : 0 ≤ x0.toInt) (p1 : x0.toInt ≤ 4) (p2 : 0 ≤ x1.toInt) (p3 : x1.toInt ≤ 59) : Ct g l yX8_row cX8_row 2 (Option.some Jvm.ClassFile.FieldType.int) rmX8_row [.int x0, .int x1] (K, len, I, J, R) (pI0 (K, len, I, J, R) (fun r => (r.toInt = x0.toInt * 60 + x1.toInt))) := by
  refine Ct_intro (by decide +kernel) (Nat.le_of_ble_eq_true rfl) (fun X hC hL hKK hNm hr hlk hQ => ?_)
  subst hL
  have hC : Cx g X cX8_row "HillTap" 2 rmX8_row := hC
  show P g X 2 0 [(0, .int x0), (1, .int x1)] [] 0 0 (K, len, I, J, R)
  have hF : Fr K [] I I := Fr.refl
  have b_x0 := ti_rng x0
  have b_x1 := ti_rng x1
  refine r_iload_n hC dX8_row_0 0 rfl ?_
  refine r_bipush hC (v := (60)) dX8_row_1 (by decide) (by decide) (fun x1_ e1 t1 => ?_)
  refine r_imul hC dX8_row_3 (fun x2_ e2 => ?_)
  try have t2 : x2_.toInt = x0.toInt * (60) := by rw [e2]; exact ti_mul rfl (by omega) (by omega) (by omega)
  refine r_iload_n hC dX8_row_4 1 rfl ?_
  refine r_iadd hC dX8_row_5 (fun x3_ e3 => ?_)
  try have t3 : x3_.toInt = x2_.toInt + x1.toInt := by rw [e3]; exact ti_add (by omega) (by omega)
  exact r_iret hC hQ hlk hr rfl (by decide) (by decide) dX8_row_6 ⟨_, rfl, rfl, (by omega)⟩
set_option maxHeartbeats 4000000 in
set_option maxRecDepth 100000 in
theorem c_X3_firstMisfit (g : GG) (l : Launch) (K len : Nat → Nat) (I : Nat → Nat → Int32) (J : Nat → Nat → Int64) (R : Nat → Nat → Option Nat) (hs : Sf K len I R) (a0 : Nat) (ka0 : K a0 = 4) (a1 : Nat) (ka1 : K a1 = 1) : Ct g l yX3_firstMisfit cX3_firstMisfit 5 (Option.some Jvm.ClassFile.FieldType.int) rmX3_firstMisfit [.ref a0, .ref a1] (K, len, I, J, R) (pI0 (K, len, I, J, R) (fun r => True)) := by
  refine Ct_intro (by decide +kernel) (Nat.le_of_ble_eq_true rfl) (fun X hC hL hKK hNm hr hlk hQ => ?_)
  subst hL
  have hC : Cx g X cX3_firstMisfit "HillTap$Readings" 5 rmX3_firstMisfit := hC
  show P g X 5 0 [(0, .ref a0), (1, .ref a1)] [] 0 0 (K, len, I, J, R)
  have hF : Fr K [] I I := Fr.refl
  refine r_bipush hC (v := (60)) dX3_firstMisfit_0 (by decide) (by decide) (fun x1_ e1 t1 => ?_)
  refine r_istore_n hC (lv' := [(2, .int x1_), (0, .ref a0), (1, .ref a1)]) dX3_firstMisfit_2 (by decide) rfl ?_
  refine r_iconst hC (v := (0)) dX3_firstMisfit_3 (by decide) (by decide) (fun x2_ e2 t2 => ?_)
  refine r_istore_n hC (lv' := [(3, .int x2_), (2, .int x1_), (0, .ref a0), (1, .ref a1)]) dX3_firstMisfit_4 (by decide) rfl ?_
  have LP3 : ∀ (mu : Nat) (x3_3 : Int32) (x3_2 : Int32) (v3_0 : 0 ≤ x3_3.toInt) (v3_1 : x3_3.toInt ≤ 24), (24 - x3_3.toInt).toNat = mu → P g X 5 5 [(0, .ref a0), (1, .ref a1), (2, .int x3_2), (3, .int x3_3)] [] 0 0 (K, len, I, J, R) := by
    intro mu; induction mu using Nat.strongRecOn with | ind mu ih => ?_
    intro x3_3 x3_2 v3_0 v3_1 hmu
    have ih3 := ih
    clear ih
    have hmu3 := hmu
    clear hmu
    refine r_iload_n hC dX3_firstMisfit_5 3 rfl ?_
    refine r_aload_n hC dX3_firstMisfit_6 0 rfl ?_
    refine r_geti hC 0 (ci := 3) rfl u3_in (by decide) mT_2_60 dX3_firstMisfit_7 ka0 rfl rfl (fun x4_ e4 => ?_)
    have r4 := hs.rng ka0 rfl e4
    refine r_icmp_ge hC (tgt := 73) dX3_firstMisfit_10 (by decide) (fun c5 => ?_) (fun c5 => ?_)
    · refine r_iload_n hC dX3_firstMisfit_73 2 rfl ?_
      exact r_iret hC hQ hlk hr rfl (by decide) (by decide) dX3_firstMisfit_74 ⟨_, rfl, rfl, trivial⟩
    · refine r_aload_n hC dX3_firstMisfit_13 1 rfl ?_
      obtain ⟨a6_, hb6, hk6, hn6⟩ := hs.row ka1 1 51 300 (by decide) (by decide)
      refine r_getr hC 1 (ci := 0) rfl u0_in (by decide) mT_2_28 dX3_firstMisfit_14 ka1 rfl rfl hb6 ?_
      refine r_aload_n hC dX3_firstMisfit_17 0 rfl ?_
      obtain ⟨a7_, hb7, hk7, hn7⟩ := hs.row ka0 1 46 24 (by decide) (by decide)
      refine r_getr hC 1 (ci := 3) rfl u3_in (by decide) mT_2_62 dX3_firstMisfit_18 ka0 rfl rfl hb7 ?_
      refine r_iload_n hC dX3_firstMisfit_21 3 rfl ?_
      refine x_iaload hC hk7 hn7 (by decide) rfl rfl dX3_firstMisfit_22 (by omega) (by omega) (fun x8_ e8 => ?_)
      have r8 := hs.arr hk7 hn7 rfl (by omega) (by omega) e8
      refine r_aload_n hC dX3_firstMisfit_23 0 rfl ?_
      obtain ⟨a9_, hb9, hk9, hn9⟩ := hs.row ka0 2 47 24 (by decide) (by decide)
      refine r_getr hC 2 (ci := 3) rfl u3_in (by decide) mT_2_63 dX3_firstMisfit_24 ka0 rfl rfl hb9 ?_
      refine r_iload_n hC dX3_firstMisfit_27 3 rfl ?_
      refine x_iaload hC hk9 hn9 (by decide) rfl rfl dX3_firstMisfit_28 (by omega) (by omega) (fun x10_ e10 => ?_)
      have r10 := hs.arr hk9 hn9 rfl (by omega) (by omega) e10
      refine r_callSN hC (As := [.int x8_, .int x10_]) (rest := [.ref a6_]) (c_X8_row g (xL X) K len I J R hs x8_ x10_ (by omega) (by omega) (by omega) (by omega)) mT_3_192 mT_1_1 nM_6 mT_3_191 okX8_row ⟨by decide, by decide⟩ rfl rfl (Nat.le_of_ble_eq_true rfl) ⟨by decide, by decide⟩ dX3_firstMisfit_29 (aI0 (F := fun st M => P g X 5 32 [(0, .ref a0), (1, .ref a1), (2, .int x3_2), (3, .int x3_3)] st _ _ M) (M := (K, len, I, J, R)) fun x11_ h11 => ?_)
      have k11_0 := h11
      show P g X 5 32 [(0, .ref a0), (1, .ref a1), (2, .int x3_2), (3, .int x3_3)] [.int x11_, .ref a6_] _ _ (K, len, I, J, R)
      refine x_iaload hC hk6 hn6 (by decide) rfl rfl dX3_firstMisfit_32 (by omega) (by omega) (fun x12_ e12 => ?_)
      refine r_aload_n hC dX3_firstMisfit_33 0 rfl ?_
      obtain ⟨a13_, hb13, hk13, hn13⟩ := hs.row ka0 3 65 24 (by decide) (by decide)
      refine r_getr hC 3 (ci := 3) rfl u3_in (by decide) mT_2_64 dX3_firstMisfit_34 ka0 rfl rfl hb13 ?_
      refine r_iload_n hC dX3_firstMisfit_37 3 rfl ?_
      refine x_iaload hC hk13 hn13 (by decide) rfl rfl dX3_firstMisfit_38 (by omega) (by omega) (fun x14_ e14 => ?_)
      refine r_isub hC dX3_firstMisfit_39 (fun x15_ e15 => ?_)
      try have t15 : x15_.toInt = x12_.toInt - x14_.toInt := by rw [e15]; exact ti_sub (by omega) (by omega)
      refine r_mabs hC mT_3_232 mT_3_233 mT_1_12 mT_3_234 (by decide) (Nat.le_of_ble_eq_true rfl) (Nat.zero_le _) (Nat.zero_le _) dX3_firstMisfit_40 (fun x16_ e16 => ?_)
      refine r_istore hC (lv' := [(4, .int x16_), (0, .ref a0), (1, .ref a1), (2, .int x3_2), (3, .int x3_3)]) dX3_firstMisfit_43 (by decide) rfl ?_
      refine r_iload hC dX3_firstMisfit_45 0 rfl ?_
      refine r_aload_n hC dX3_firstMisfit_47 1 rfl ?_
      obtain ⟨a17_, hb17, hk17, hn17⟩ := hs.row ka0 4 66 24 (by decide) (by decide)
      refine r_getr hC 4 (ci := 3) rfl u3_in (by decide) mT_2_65 dX3_firstMisfit_48 ka0 rfl rfl hb17 ?_
      refine r_iload_n hC dX3_firstMisfit_51 4 rfl ?_
      refine x_iaload hC hk17 hn17 (by decide) rfl rfl dX3_firstMisfit_52 (by omega) (by omega) (fun x18_ e18 => ?_)
      refine r_icmp_le hC (tgt := 67) dX3_firstMisfit_53 (by decide) (fun c19 => ?_) (fun c19 => ?_)
      · obtain ⟨x20_, e20⟩ : ∃ z : Int32, z = x3_3 + Int32.ofInt (1) := ⟨_, rfl⟩
        refine r_iinc hC (j := 4) (v := x20_) (lv' := [(3, .int x20_), (4, .int x16_), (0, .ref a0), (1, .ref a1), (2, .int x3_2)]) dX3_firstMisfit_67 rfl (by rw [e20]) (by decide) rfl ?_
        try have t20 : x20_.toInt = x3_3.toInt + (1) := by rw [e20]; exact (ti_add (b := Int32.ofInt (1)) (by show _ ≤ _ + (1 : Int); omega) (by show _ + (1 : Int) ≤ _; omega))
        refine r_goto hC (tgt := 5) dX3_firstMisfit_70 (by decide) ?_
        refine r_sub [2, 3, 4, 0] rfl ?_
        exact ih3 ((24 - x20_.toInt).toNat) (by omega) x20_ x3_2 (by omega) (by omega) rfl
      · refine r_iload_n hC dX3_firstMisfit_56 3 rfl ?_
        refine r_aload_n hC dX3_firstMisfit_57 1 rfl ?_
        refine r_getr hC 2 (ci := 3) rfl u3_in (by decide) mT_2_63 dX3_firstMisfit_58 ka0 rfl rfl hb9 ?_
        refine r_iload_n hC dX3_firstMisfit_61 4 rfl ?_
        refine x_iaload hC hk9 hn9 (by decide) rfl rfl dX3_firstMisfit_62 (by omega) (by omega) (fun x21_ e21 => ?_)
        have r21 := hs.arr hk9 hn9 rfl (by omega) (by omega) e21
        refine r_mmin hC mT_3_235 mT_2_154 mT_1_12 mT_2_155 (by decide) (Nat.le_of_ble_eq_true rfl) (Nat.zero_le _) (Nat.zero_le _) dX3_firstMisfit_63 (fun x22_ e22 t22a t22b t22c => ?_)
        refine r_istore_n hC (lv' := [(2, .int x22_), (4, .int x16_), (0, .ref a0), (1, .ref a1), (3, .int x3_3)]) dX3_firstMisfit_66 (by decide) rfl ?_
        obtain ⟨x23_, e23⟩ : ∃ z : Int32, z = x3_3 + Int32.ofInt (1) := ⟨_, rfl⟩
        refine r_iinc hC (j := 4) (v := x23_) (lv' := [(3, .int x23_), (2, .int x22_), (4, .int x16_), (0, .ref a0), (1, .ref a1)]) dX3_firstMisfit_67 rfl (by rw [e23]) (by decide) rfl ?_
        try have t23 : x23_.toInt = x3_3.toInt + (1) := by rw [e23]; exact (ti_add (b := Int32.ofInt (1)) (by show _ ≤ _ + (1 : Int); omega) (by show _ + (1 : Int) ≤ _; omega))
        refine r_goto hC (tgt := 5) dX3_firstMisfit_70 (by decide) ?_
        refine r_sub [3, 4, 1, 0] rfl ?_
        exact ih3 ((24 - x23_.toInt).toNat) (by omega) x23_ x22_ (by omega) (by omega) rfl
  refine r_sub [2, 3, 1, 0] rfl ?_
  exact LP3 _ x2_ x1_ (by omega) (by omega) rfl
set_option maxHeartbeats 4000000 in
set_option maxRecDepth 100000 in
theorem c_X0_togetherAhead (g : GG) (l : Launch) (K len : Nat → Nat) (I : Nat → Nat → Int32) (J : Nat → Nat → Int64) (R : Nat → Nat → Option Nat) (hs : Sf K len I R) (a0 : Nat) (ka0 : K a0 = 1) (x1 : Int32) (p0 : x1.toInt ≤ 60) : Ct g l yX0_togetherAhead cX0_togetherAhead 2 (Option.some Jvm.ClassFile.FieldType.int) rmX0_togetherAhead [.ref a0, .int x1] (K, len, I, J, R) (pI0 (K, len, I, J, R) (fun r => True)) := by
  refine Ct_intro (by decide +kernel) (Nat.le_of_ble_eq_true rfl) (fun X hC hL hKK hNm hr hlk hQ => ?_)
  subst hL
  have hC : Cx g X cX0_togetherAhead "HillTap$Course" 2 rmX0_togetherAhead := hC
  show P g X 2 0 [(0, .ref a0), (1, .int x1)] [] 0 0 (K, len, I, J, R)
  have hF : Fr K [] I I := Fr.refl
  have b_x1 := ti_rng x1
  refine r_iload_n hC dX0_togetherAhead_0 1 rfl ?_
  refine r_if_le hC (tgt := 15) dX0_togetherAhead_1 (by decide) (fun c1 => ?_) (fun c1 => ?_)
  · refine r_iconst hC (v := (0)) dX0_togetherAhead_15 (by decide) (by decide) (fun x2_ e2 t2 => ?_)
    exact r_iret hC hQ hlk hr rfl (by decide) (by decide) dX0_togetherAhead_16 ⟨_, rfl, rfl, trivial⟩
  · refine r_aload_n hC dX0_togetherAhead_4 0 rfl ?_
    obtain ⟨a3_, hb3, hk3, hn3⟩ := hs.row ka0 3 53 60 (by decide) (by decide)
    refine r_getr hC 3 (ci := 0) rfl u0_in (by decide) mT_2_32 dX0_togetherAhead_5 ka0 rfl rfl hb3 ?_
    refine r_iload_n hC dX0_togetherAhead_8 1 rfl ?_
    refine r_iconst hC (v := (1)) dX0_togetherAhead_9 (by decide) (by decide) (fun x4_ e4 t4 => ?_)
    refine r_isub hC dX0_togetherAhead_10 (fun x5_ e5 => ?_)
    try have t5 : x5_.toInt = x1.toInt - x4_.toInt := by rw [e5]; exact ti_sub (by omega) (by omega)
    refine x_iaload hC hk3 hn3 (by decide) rfl rfl dX0_togetherAhead_11 (by omega) (by omega) (fun x6_ e6 => ?_)
    refine r_goto hC (tgt := 16) dX0_togetherAhead_12 (by decide) ?_
    exact r_iret hC hQ hlk hr rfl (by decide) (by decide) dX0_togetherAhead_16 ⟨_, rfl, rfl, trivial⟩
set_option maxHeartbeats 4000000 in
set_option maxRecDepth 100000 in
theorem c_X0_heldFrom (g : GG) (l : Launch) (K len : Nat → Nat) (I : Nat → Nat → Int32) (J : Nat → Nat → Int64) (R : Nat → Nat → Option Nat) (hs : Sf K len I R) (a0 : Nat) (ka0 : K a0 = 1) (x1 : Int32) (p0 : 0 ≤ x1.toInt) (p1 : x1.toInt ≤ 59) : Ct g l yX0_heldFrom cX0_heldFrom 3 (Option.some Jvm.ClassFile.FieldType.boolean) rmX0_heldFrom [.ref a0, .int x1] (K, len, I, J, R) (pI0 (K, len, I, J, R) (fun r => (0 ≤ r.toInt) ∧ (r.toInt ≤ 1))) := by
  refine Ct_intro (by decide +kernel) (Nat.le_of_ble_eq_true rfl) (fun X hC hL hKK hNm hr hlk hQ => ?_)
  subst hL
  have hC : Cx g X cX0_heldFrom "HillTap$Course" 3 rmX0_heldFrom := hC
  show P g X 3 0 [(0, .ref a0), (1, .int x1)] [] 0 0 (K, len, I, J, R)
  have hF : Fr K [] I I := Fr.refl
  have b_x1 := ti_rng x1
  refine r_iload_n hC dX0_heldFrom_0 1 rfl ?_
  refine r_iconst hC (v := (5)) dX0_heldFrom_1 (by decide) (by decide) (fun x1_ e1 t1 => ?_)
  refine r_iadd hC dX0_heldFrom_2 (fun x2_ e2 => ?_)
  try have t2 : x2_.toInt = x1.toInt + x1_.toInt := by rw [e2]; exact ti_add (by omega) (by omega)
  refine r_bipush hC (v := (59)) dX0_heldFrom_3 (by decide) (by decide) (fun x3_ e3 t3 => ?_)
  refine r_mmin hC mT_3_181 mT_2_154 mT_1_12 mT_2_155 (by decide) (Nat.le_of_ble_eq_true rfl) (Nat.zero_le _) (Nat.zero_le _) dX0_heldFrom_5 (fun x4_ e4 t4a t4b t4c => ?_)
  refine r_istore_n hC (lv' := [(2, .int x4_), (0, .ref a0), (1, .int x1)]) dX0_heldFrom_8 (by decide) rfl ?_
  refine r_aload_n hC dX0_heldFrom_9 1 rfl ?_
  refine r_geti hC 5 (ci := 0) rfl u0_in (by decide) mT_2_35 dX0_heldFrom_10 ka0 rfl rfl (fun x5_ e5 => ?_)
  refine r_bipush hC (v := (-2)) dX0_heldFrom_13 (by decide) (by decide) (fun x6_ e6 t6 => ?_)
  refine r_icmp_eq hC (tgt := 28) dX0_heldFrom_15 (by decide) (fun c7 => ?_) (fun c7 => ?_)
  · refine r_aload_n hC dX0_heldFrom_28 1 rfl ?_
    obtain ⟨a8_, hb8, hk8, hn8⟩ := hs.row ka0 3 53 60 (by decide) (by decide)
    refine r_getr hC 3 (ci := 0) rfl u0_in (by decide) mT_2_32 dX0_heldFrom_29 ka0 rfl rfl hb8 ?_
    refine r_iload_n hC dX0_heldFrom_32 0 rfl ?_
    refine x_iaload hC hk8 hn8 (by decide) rfl rfl dX0_heldFrom_33 (by omega) (by omega) (fun x9_ e9 => ?_)
    refine r_aload_n hC dX0_heldFrom_34 1 rfl ?_
    refine r_iload_n hC dX0_heldFrom_35 2 rfl ?_
    refine r_callV hC (As := [.int x1]) (rest := [.int x9_]) (ci := 0) (c_X0_togetherAhead g (xL X) K len I J R hs a0 ka0 x1 (by omega)) mT_4_51 mT_1_8 mT_4_48 mT_4_49 mT_4_50 okX0_togetherAhead ⟨by decide, by decide⟩ rfl (by show kO (K a0) = _; rw [ka0]; rfl) rfl rfl (Nat.le_of_ble_eq_true rfl) ⟨by decide, by decide⟩ dX0_heldFrom_36 (aI0 (F := fun st M => P g X 3 39 [(2, .int x4_), (0, .ref a0), (1, .int x1)] st _ _ M) (M := (K, len, I, J, R)) fun x10_ h10 => ?_)
    skip
    show P g X 3 39 [(2, .int x4_), (0, .ref a0), (1, .int x1)] [.int x10_, .int x9_] _ _ (K, len, I, J, R)
    refine r_icmp_ge hC (tgt := 46) dX0_heldFrom_39 (by decide) (fun c11 => ?_) (fun c11 => ?_)
    · refine r_iconst hC (v := (0)) dX0_heldFrom_46 (by decide) (by decide) (fun x12_ e12 t12 => ?_)
      exact r_iret hC hQ hlk hr (by rw [e12]; rfl) (by decide) (by decide) dX0_heldFrom_47 ⟨_, rfl, rfl, ⟨(by omega), (by omega)⟩⟩
    · refine r_iconst hC (v := (1)) dX0_heldFrom_42 (by decide) (by decide) (fun x13_ e13 t13 => ?_)
      refine r_goto hC (tgt := 47) dX0_heldFrom_43 (by decide) ?_
      exact r_iret hC hQ hlk hr (by rw [e13]; rfl) (by decide) (by decide) dX0_heldFrom_47 ⟨_, rfl, rfl, ⟨(by omega), (by omega)⟩⟩
  · refine r_aload_n hC dX0_heldFrom_18 1 rfl ?_
    refine r_geti hC 5 (ci := 0) rfl u0_in (by decide) mT_2_35 dX0_heldFrom_19 ka0 rfl rfl (fun x14_ e14 => ?_)
    have w14 : x14_ = x5_ := by rw [e14]; exact e5.symm
    have wt14 : x14_.toInt = x5_.toInt := by rw [w14]
    refine r_iload_n hC dX0_heldFrom_22 0 rfl ?_
    refine r_icmp_gt hC (tgt := 28) dX0_heldFrom_23 (by decide) (fun c15 => ?_) (fun c15 => ?_)
    · refine r_aload_n hC dX0_heldFrom_28 1 rfl ?_
      obtain ⟨a16_, hb16, hk16, hn16⟩ := hs.row ka0 3 53 60 (by decide) (by decide)
      refine r_getr hC 3 (ci := 0) rfl u0_in (by decide) mT_2_32 dX0_heldFrom_29 ka0 rfl rfl hb16 ?_
      refine r_iload_n hC dX0_heldFrom_32 0 rfl ?_
      refine x_iaload hC hk16 hn16 (by decide) rfl rfl dX0_heldFrom_33 (by omega) (by omega) (fun x17_ e17 => ?_)
      refine r_aload_n hC dX0_heldFrom_34 1 rfl ?_
      refine r_iload_n hC dX0_heldFrom_35 2 rfl ?_
      refine r_callV hC (As := [.int x1]) (rest := [.int x17_]) (ci := 0) (c_X0_togetherAhead g (xL X) K len I J R hs a0 ka0 x1 (by omega)) mT_4_51 mT_1_8 mT_4_48 mT_4_49 mT_4_50 okX0_togetherAhead ⟨by decide, by decide⟩ rfl (by show kO (K a0) = _; rw [ka0]; rfl) rfl rfl (Nat.le_of_ble_eq_true rfl) ⟨by decide, by decide⟩ dX0_heldFrom_36 (aI0 (F := fun st M => P g X 3 39 [(2, .int x4_), (0, .ref a0), (1, .int x1)] st _ _ M) (M := (K, len, I, J, R)) fun x18_ h18 => ?_)
      skip
      show P g X 3 39 [(2, .int x4_), (0, .ref a0), (1, .int x1)] [.int x18_, .int x17_] _ _ (K, len, I, J, R)
      refine r_icmp_ge hC (tgt := 46) dX0_heldFrom_39 (by decide) (fun c19 => ?_) (fun c19 => ?_)
      · refine r_iconst hC (v := (0)) dX0_heldFrom_46 (by decide) (by decide) (fun x20_ e20 t20 => ?_)
        exact r_iret hC hQ hlk hr (by rw [e20]; rfl) (by decide) (by decide) dX0_heldFrom_47 ⟨_, rfl, rfl, ⟨(by omega), (by omega)⟩⟩
      · refine r_iconst hC (v := (1)) dX0_heldFrom_42 (by decide) (by decide) (fun x21_ e21 t21 => ?_)
        refine r_goto hC (tgt := 47) dX0_heldFrom_43 (by decide) ?_
        exact r_iret hC hQ hlk hr (by rw [e21]; rfl) (by decide) (by decide) dX0_heldFrom_47 ⟨_, rfl, rfl, ⟨(by omega), (by omega)⟩⟩
    · refine r_iconst hC (v := (0)) dX0_heldFrom_26 (by decide) (by decide) (fun x22_ e22 t22 => ?_)
      exact r_iret hC hQ hlk hr (by rw [e22]; rfl) (by decide) (by decide) dX0_heldFrom_27 ⟨_, rfl, rfl, ⟨(by omega), (by omega)⟩⟩
