def bv (x s : Int32) : Int := (vp_nar .byte ((x >>> (s &&& 31)).toInt8.toInt32)).toInt
theorem bv_rng (x s : Int32) : -128 ≤ bv x s ∧ bv x s ≤ 127 := by
  have h : bv x s = ((x >>> (s &&& 31)).toInt8.toInt32.toInt8).toInt := by
    show ((x >>> (s &&& 31)).toInt8.toInt32.toInt8.toInt32).toInt = _
    rw [Int8.toInt_toInt32]
  rw [h]
  exact ⟨Int8.le_toInt _, by have := Int8.toInt_lt ((x >>> (s &&& 31)).toInt8.toInt32.toInt8); omega⟩
def sh (i : Nat) : Int32 := if i % 4 = 0 then 24 else if i % 4 = 1 then 16 else if i % 4 = 2 then 8 else 0
def fb (a b c d e : Int32) (k : Nat) : Int := if k < 4 then bv a (sh k) else if k < 8 then bv b (sh k) else if k < 12 then bv c (sh k) else if k < 16 then bv d (sh k) else bv e (sh k)
section FEED
variable {a b c d e : Int32} {k : Nat}
theorem fb_0 (h : k < 4) : fb a b c d e k = bv a (sh k) := by unfold fb; rw [if_pos h]
theorem fb_1 (h0 : 4 ≤ k) (h : k < 8) : fb a b c d e k = bv b (sh k) := by unfold fb; rw [if_neg (by omega), if_pos h]
theorem fb_2 (h0 : 8 ≤ k) (h : k < 12) : fb a b c d e k = bv c (sh k) := by unfold fb; rw [if_neg (by omega), if_neg (by omega), if_pos h]
theorem fb_3 (h0 : 12 ≤ k) (h : k < 16) : fb a b c d e k = bv d (sh k) := by unfold fb; rw [if_neg (by omega), if_neg (by omega), if_neg (by omega), if_pos h]
theorem fb_4 (h0 : 16 ≤ k) : fb a b c d e k = bv e (sh k) := by unfold fb; rw [if_neg (by omega), if_neg (by omega), if_neg (by omega), if_neg (by omega)]
theorem sh_4 {i m : Nat} (h : m % 4 = 0) : sh (m + i) = sh i := by unfold sh; rw [show (m + i) % 4 = i % 4 by omega]
theorem fb_rng : -128 ≤ fb a b c d e k ∧ fb a b c d e k ≤ 127 := by
  unfold fb
  split
  · exact bv_rng _ _
  · split
    · exact bv_rng _ _
    · split
      · exact bv_rng _ _
      · split <;> exact bv_rng _ _
theorem i32_of {x : Int32} {c : Int32} (h : x.toInt = c.toInt) : x = c := Int32.toInt_inj.mp h
theorem sh_k {k y4 e8 e24 r q s : Int32} (h0 : 0 ≤ k.toInt) (h1 : k.toInt < 20) (e4 : y4 = 4) (h8 : e8 = 8) (h24 : e24 = 24) (er : r = k - k / y4 * y4) (eq : q = e8 * r) (es : s = e24 - q) : s = sh k.toInt.toNat := by
  subst e4 h8 h24 er eq es
  have hc : k = 0 ∨ k = 1 ∨ k = 2 ∨ k = 3 ∨ k = 4 ∨ k = 5 ∨ k = 6 ∨ k = 7 ∨ k = 8 ∨ k = 9 ∨ k = 10 ∨ k = 11 ∨ k = 12 ∨ k = 13 ∨ k = 14 ∨ k = 15 ∨ k = 16 ∨ k = 17 ∨ k = 18 ∨ k = 19 := by
    rcases (show k.toInt = 0 ∨ k.toInt = 1 ∨ k.toInt = 2 ∨ k.toInt = 3 ∨ k.toInt = 4 ∨ k.toInt = 5 ∨ k.toInt = 6 ∨ k.toInt = 7 ∨ k.toInt = 8 ∨ k.toInt = 9 ∨ k.toInt = 10 ∨ k.toInt = 11 ∨ k.toInt = 12 ∨ k.toInt = 13 ∨ k.toInt = 14 ∨ k.toInt = 15 ∨ k.toInt = 16 ∨ k.toInt = 17 ∨ k.toInt = 18 ∨ k.toInt = 19 by omega) with h | h | h | h | h | h | h | h | h | h | h | h | h | h | h | h | h | h | h | h
    all_goals first
      | exact Or.inl (i32_of h) | exact Or.inr (Or.inl (i32_of h)) | exact Or.inr (Or.inr (Or.inl (i32_of h))) | (rw [show k = _ from i32_of (c := 3) h]; decide) | (rw [show k = _ from i32_of (c := 4) h]; decide) | (rw [show k = _ from i32_of (c := 5) h]; decide) | (rw [show k = _ from i32_of (c := 6) h]; decide) | (rw [show k = _ from i32_of (c := 7) h]; decide) | (rw [show k = _ from i32_of (c := 8) h]; decide) | (rw [show k = _ from i32_of (c := 9) h]; decide) | (rw [show k = _ from i32_of (c := 10) h]; decide) | (rw [show k = _ from i32_of (c := 11) h]; decide) | (rw [show k = _ from i32_of (c := 12) h]; decide) | (rw [show k = _ from i32_of (c := 13) h]; decide) | (rw [show k = _ from i32_of (c := 14) h]; decide) | (rw [show k = _ from i32_of (c := 15) h]; decide) | (rw [show k = _ from i32_of (c := 16) h]; decide) | (rw [show k = _ from i32_of (c := 17) h]; decide) | (rw [show k = _ from i32_of (c := 18) h]; decide) | (rw [show k = _ from i32_of (c := 19) h]; decide)
  rcases hc with h | h | h | h | h | h | h | h | h | h | h | h | h | h | h | h | h | h | h | h <;> subst h <;> decide
/-- c bytes f more behind the first L -/
def BS (bt L : Nat) (f : Nat → Int) (c : Nat) (I0 I : Nat → Nat → Int32) : Prop := (∀ j, j < L → I bt j = I0 bt j) ∧ (∀ i, i < c → (I bt (L + i)).toInt = f i)
variable {bt L n : Nat} {f g : Nat → Int} {K : Nat → Nat} {l : List (Nat × Nat)} {I0 I I' : Nat → Nat → Int32}
theorem BS.rf : BS bt L f 0 I I := ⟨fun _ _ => rfl, fun i hi => absurd hi (by omega)⟩
theorem BS.st (h : BS bt L f n I0 I) {q : Nat} {v : Int32} (e : I' = up2 I bt q v) (hk : q = L + n) (hv : v.toInt = f n) : BS bt L f (n + 1) I0 I' := by
  refine ⟨fun j hj => ?_, fun i hi => ?_⟩
  · rw [e, up2_ne _ _ (Or.inr (by omega))]; exact h.1 j hj
  · by_cases hin : i = n
    · subst hin; rw [e, hk, up2_self]; exact hv
    · rw [e, up2_ne _ _ (Or.inr (by omega))]; exact h.2 i (by omega)
theorem BS.put (h : BS bt L f n I0 I) {a' k' q qb : Nat} {v : Int32} (e : I' = up2 I a' k' v) (hq : K a' = q) (hb : K bt = qb) (hne : q ≠ qb) : BS bt L f n I0 I' := by
  have hn : ∀ j, I' bt j = I bt j := fun j => by rw [e, up2_ne _ _ (Or.inl (fun z => hne (by rw [← hq, ← z, hb])))]
  exact ⟨fun j hj => by rw [hn]; exact h.1 j hj, fun i hi => by rw [hn]; exact h.2 i hi⟩
theorem BS.cat (h : BS bt L f n I0 I) (h2 : BS bt (L + n) g 4 I I') (hg : ∀ i, i < 4 → g i = f (n + i)) : BS bt L f (n + 4) I0 I' := by
  refine ⟨fun j hj => (h2.1 j (by omega)).trans (h.1 j hj), fun i hi => ?_⟩
  by_cases hin : i < n
  · rw [h2.1 (L + i) (by omega)]; exact h.2 i hin
  · have := h2.2 (i - n) (by omega)
    rw [show L + n + (i - n) = L + i by omega] at this
    rw [this, hg (i - n) (by omega), show n + (i - n) = i by omega]
end FEED
set_option maxHeartbeats 4000000 in
set_option maxRecDepth 100000 in
theorem f_X5_add (g : GG) (l : Launch) (K len : Nat → Nat) (I : Nat → Nat → Int32) (J : Nat → Nat → Int64) (R : Nat → Nat → Option Nat) (hs : Sf K len I R) (a0 : Nat) (ka0 : K a0 = 6) (x1 : Int32) (bt : Nat) (hbb : R a0 0 = some bt) (hkb : K bt = 40) (nbt : len bt = 900) (L : Nat) (hL : (I a0 1).toInt = L) (p0 : (L : Int) ≤ 896) : Ct g l yX5_add cX5_add 3 (Option.none : Option Jvm.ClassFile.FieldType) rmX5_add [.ref a0, .int x1] (K, len, I, J, R) (pV1 (K, len, I, J, R) (fun I' => Sf K len I' R ∧ Fr K [(6, 1), (40, 999)] I I' ∧ ((I' a0 1).toInt = (L : Int) + 4) ∧ (BS bt L (fun i => bv x1 (sh i)) 4 I I'))) := by
  refine Ct_intro (by decide +kernel) (Nat.le_of_ble_eq_true rfl) (fun X hC hL hKK hNm hr hlk hQ => ?_)
  subst hL
  have hC : Cx g X cX5_add "HillTap$Tape" 3 rmX5_add := hC
  show P g X 3 0 [(0, .ref a0), (1, .int x1)] [] 0 0 (K, len, I, J, R)
  have hF : Fr K [(6, 1), (40, 999)] I I := Fr.refl
  have b_x1 := ti_rng x1
  obtain ⟨L0, eL0⟩ : ∃ z : Int32, z = I a0 1 := ⟨_, rfl⟩
  have fL0 : L0.toInt = (I a0 1).toInt := by rw [eL0]
  have rL0 := hs.rng ka0 rfl eL0
  refine r_bipush hC (v := (24)) dX5_add_0 (by decide) (by decide) (fun x1_ e1 t1 => ?_)
  refine r_istore_n hC (lv' := [(2, .int x1_), (0, .ref a0), (1, .int x1)]) dX5_add_2 (by decide) rfl ?_
  refine r_iload_n hC dX5_add_3 0 rfl ?_
  refine r_if_lt hC (tgt := 46) dX5_add_4 (by decide) (fun c2 => ?_) (fun c2 => ?_)
  · exfalso; omega
  refine r_aload_n hC dX5_add_7 1 rfl ?_
  refine r_geti hC 1 (ci := 5) rfl u5_in (by decide) mT_1_40 dX5_add_8 ka0 rfl rfl (fun x3_ e3 => ?_)
  have r3 := hs.rng ka0 rfl e3
  have f3 : x3_.toInt = (I a0 1).toInt := by rw [e3]
  have w3 : x3_ = L0 := by rw [e3]; exact eL0.symm
  have wt3 : x3_.toInt = L0.toInt := by rw [w3]
  refine r_sipush hC (v := (900)) dX5_add_11 (by decide) (by decide) (fun x4_ e4 t4 => ?_)
  refine r_icmp_ge hC (tgt := 40) dX5_add_14 (by decide) (fun c5 => ?_) (fun c5 => ?_)
  · exfalso; omega
  refine r_aload_n hC dX5_add_17 1 rfl ?_
  refine r_getr hC 0 (ci := 5) rfl u5_in (by decide) mT_1_36 dX5_add_18 ka0 rfl rfl hbb ?_
  refine r_aload_n hC dX5_add_21 1 rfl ?_
  refine r_geti hC 1 (ci := 5) rfl u5_in (by decide) mT_1_40 dX5_add_22 ka0 rfl rfl (fun x6_ e6 => ?_)
  have r6 := hs.rng ka0 rfl e6
  have f6 : x6_.toInt = (I a0 1).toInt := by rw [e6]
  have w6 : x6_ = x3_ := by rw [e6]; exact e3.symm
  have wt6 : x6_.toInt = x3_.toInt := by rw [w6]
  refine r_iload_n hC dX5_add_25 2 rfl ?_
  refine r_iload_n hC dX5_add_26 0 rfl ?_
  refine r_ishr hC dX5_add_27 (fun x7_ e7 => ?_)
  refine r_i2b hC dX5_add_28 (fun x8_ e8 => ?_)
  refine x_bastore hC hkb nbt (by decide) rfl rfl dX5_add_29 (by omega) (by omega) (fun I9 eI9 => ?_)
  have hs9 := hs.put0 eI9 hkb (rng_arr (by decide) _) rfl (xF_arr (by decide) _) (by decide)
  have hF9 := hF.put eI9 hkb (inS_arr rfl _)
  have bs9 : BS bt L (fun i => bv x1 (sh i)) 1 I I9 := (BS.rf (bt := bt) (L := L) (f := fun i => bv x1 (sh i)) (I := I)).st eI9 (by have h9 := clampI (i := x6_) (by omega); omega) (by show _ = bv x1 (sh 0); unfold bv; rw [e8, e7, show x1_ = sh 0 from i32_of (by rw [show (sh 0).toInt = 24 from rfl]; omega)])
  refine r_aload_n hC dX5_add_30 1 rfl ?_
  refine r_dup hC dX5_add_31 rfl ?_
  refine r_geti hC 1 (ci := 5) rfl u5_in (by decide) mT_1_40 dX5_add_32 ka0 rfl rfl (fun x10_ e10 => ?_)
  have r10 := hs9.rng ka0 rfl e10
  have f10 : x10_.toInt = (I9 a0 1).toInt := by rw [e10]
  have w10 : x10_ = x6_ := by rw [e10]; exact (Eq.trans (up2_kk eI9 hkb ka0 (by decide)) e6.symm)
  have wt10 : x10_.toInt = x6_.toInt := by rw [w10]
  refine r_iconst hC (v := (1)) dX5_add_35 (by decide) (by decide) (fun x11_ e11 t11 => ?_)
  refine r_iadd hC dX5_add_36 (fun x12_ e12 => ?_)
  try have t12 : x12_.toInt = x10_.toInt + x11_.toInt := by rw [e12]; exact ti_add (by omega) (by omega)
  refine r_puti hC 1 (ci := 5) rfl u5_in tyX5_ok nmX5 (by decide) mT_1_40 rfl rfl rfl dX5_add_37 ka0 rfl rfl (fun I13 eI13 => ?_)
  have hs13 := hs9.put1 eI13 ka0 rfl (by omega) (by omega) rfl rfl (by decide)
  have hF13 := hF9.put eI13 ka0 rfl
  have bs13 := bs9.put eI13 ka0 hkb (by decide)
  obtain ⟨x14_, e14⟩ : ∃ z : Int32, z = x1_ + Int32.ofInt (-8) := ⟨_, rfl⟩
  refine r_iinc hC (j := 0) (v := x14_) (lv' := [(2, .int x14_), (0, .ref a0), (1, .int x1)]) dX5_add_40 rfl (by rw [e14]) (by decide) rfl ?_
  try have t14 : x14_.toInt = x1_.toInt + (-8) := by rw [e14]; exact (ti_add (b := Int32.ofInt (-8)) (by show _ ≤ _ + (-8 : Int); omega) (by show _ + (-8 : Int) ≤ _; omega))
  refine r_goto hC (tgt := 3) dX5_add_43 (by decide) ?_
  refine r_iload_n hC dX5_add_3 0 rfl ?_
  refine r_if_lt hC (tgt := 46) dX5_add_4 (by decide) (fun c15 => ?_) (fun c15 => ?_)
  · exfalso; omega
  refine r_aload_n hC dX5_add_7 1 rfl ?_
  refine r_geti hC 1 (ci := 5) rfl u5_in (by decide) mT_1_40 dX5_add_8 ka0 rfl rfl (fun x16_ e16 => ?_)
  have r16 := hs13.rng ka0 rfl e16
  have f16 : x16_.toInt = (I13 a0 1).toInt := by rw [e16]
  have w16 : x16_ = x12_ := by rw [e16]; exact (by rw [eI13]; exact up2_self _ _ _ _)
  have wt16 : x16_.toInt = x12_.toInt := by rw [w16]
  refine r_sipush hC (v := (900)) dX5_add_11 (by decide) (by decide) (fun x17_ e17 t17 => ?_)
  refine r_icmp_ge hC (tgt := 40) dX5_add_14 (by decide) (fun c18 => ?_) (fun c18 => ?_)
  · exfalso; omega
  refine r_aload_n hC dX5_add_17 1 rfl ?_
  refine r_getr hC 0 (ci := 5) rfl u5_in (by decide) mT_1_36 dX5_add_18 ka0 rfl rfl hbb ?_
  refine r_aload_n hC dX5_add_21 1 rfl ?_
  refine r_geti hC 1 (ci := 5) rfl u5_in (by decide) mT_1_40 dX5_add_22 ka0 rfl rfl (fun x19_ e19 => ?_)
  have r19 := hs13.rng ka0 rfl e19
  have f19 : x19_.toInt = (I13 a0 1).toInt := by rw [e19]
  have w19 : x19_ = x16_ := by rw [e19]; exact e16.symm
  have wt19 : x19_.toInt = x16_.toInt := by rw [w19]
  refine r_iload_n hC dX5_add_25 2 rfl ?_
  refine r_iload_n hC dX5_add_26 0 rfl ?_
  refine r_ishr hC dX5_add_27 (fun x20_ e20 => ?_)
  refine r_i2b hC dX5_add_28 (fun x21_ e21 => ?_)
  refine x_bastore hC hkb nbt (by decide) rfl rfl dX5_add_29 (by omega) (by omega) (fun I22 eI22 => ?_)
  have hs22 := hs13.put0 eI22 hkb (rng_arr (by decide) _) rfl (xF_arr (by decide) _) (by decide)
  have hF22 := hF13.put eI22 hkb (inS_arr rfl _)
  have bs22 : BS bt L (fun i => bv x1 (sh i)) 2 I I22 := bs13.st eI22 (by have h9 := clampI (i := x19_) (by omega); omega) (by show _ = bv x1 (sh 1); unfold bv; rw [e21, e20, show x14_ = sh 1 from i32_of (by rw [show (sh 1).toInt = 16 from rfl]; omega)])
  refine r_aload_n hC dX5_add_30 1 rfl ?_
  refine r_dup hC dX5_add_31 rfl ?_
  refine r_geti hC 1 (ci := 5) rfl u5_in (by decide) mT_1_40 dX5_add_32 ka0 rfl rfl (fun x23_ e23 => ?_)
  have r23 := hs22.rng ka0 rfl e23
  have f23 : x23_.toInt = (I22 a0 1).toInt := by rw [e23]
  have w23 : x23_ = x19_ := by rw [e23]; exact (Eq.trans (up2_kk eI22 hkb ka0 (by decide)) e19.symm)
  have wt23 : x23_.toInt = x19_.toInt := by rw [w23]
  refine r_iconst hC (v := (1)) dX5_add_35 (by decide) (by decide) (fun x24_ e24 t24 => ?_)
  refine r_iadd hC dX5_add_36 (fun x25_ e25 => ?_)
  try have t25 : x25_.toInt = x23_.toInt + x24_.toInt := by rw [e25]; exact ti_add (by omega) (by omega)
  refine r_puti hC 1 (ci := 5) rfl u5_in tyX5_ok nmX5 (by decide) mT_1_40 rfl rfl rfl dX5_add_37 ka0 rfl rfl (fun I26 eI26 => ?_)
  have hs26 := hs22.put1 eI26 ka0 rfl (by omega) (by omega) rfl rfl (by decide)
  have hF26 := hF22.put eI26 ka0 rfl
  have bs26 := bs22.put eI26 ka0 hkb (by decide)
  obtain ⟨x27_, e27⟩ : ∃ z : Int32, z = x14_ + Int32.ofInt (-8) := ⟨_, rfl⟩
  refine r_iinc hC (j := 0) (v := x27_) (lv' := [(2, .int x27_), (0, .ref a0), (1, .int x1)]) dX5_add_40 rfl (by rw [e27]) (by decide) rfl ?_
  try have t27 : x27_.toInt = x14_.toInt + (-8) := by rw [e27]; exact (ti_add (b := Int32.ofInt (-8)) (by show _ ≤ _ + (-8 : Int); omega) (by show _ + (-8 : Int) ≤ _; omega))
  refine r_goto hC (tgt := 3) dX5_add_43 (by decide) ?_
  refine r_iload_n hC dX5_add_3 0 rfl ?_
  refine r_if_lt hC (tgt := 46) dX5_add_4 (by decide) (fun c28 => ?_) (fun c28 => ?_)
  · exfalso; omega
  refine r_aload_n hC dX5_add_7 1 rfl ?_
  refine r_geti hC 1 (ci := 5) rfl u5_in (by decide) mT_1_40 dX5_add_8 ka0 rfl rfl (fun x29_ e29 => ?_)
  have r29 := hs26.rng ka0 rfl e29
  have f29 : x29_.toInt = (I26 a0 1).toInt := by rw [e29]
  have w29 : x29_ = x25_ := by rw [e29]; exact (by rw [eI26]; exact up2_self _ _ _ _)
  have wt29 : x29_.toInt = x25_.toInt := by rw [w29]
  refine r_sipush hC (v := (900)) dX5_add_11 (by decide) (by decide) (fun x30_ e30 t30 => ?_)
  refine r_icmp_ge hC (tgt := 40) dX5_add_14 (by decide) (fun c31 => ?_) (fun c31 => ?_)
  · exfalso; omega
  refine r_aload_n hC dX5_add_17 1 rfl ?_
  refine r_getr hC 0 (ci := 5) rfl u5_in (by decide) mT_1_36 dX5_add_18 ka0 rfl rfl hbb ?_
  refine r_aload_n hC dX5_add_21 1 rfl ?_
  refine r_geti hC 1 (ci := 5) rfl u5_in (by decide) mT_1_40 dX5_add_22 ka0 rfl rfl (fun x32_ e32 => ?_)
  have r32 := hs26.rng ka0 rfl e32
  have f32 : x32_.toInt = (I26 a0 1).toInt := by rw [e32]
  have w32 : x32_ = x29_ := by rw [e32]; exact e29.symm
  have wt32 : x32_.toInt = x29_.toInt := by rw [w32]
  refine r_iload_n hC dX5_add_25 2 rfl ?_
  refine r_iload_n hC dX5_add_26 0 rfl ?_
  refine r_ishr hC dX5_add_27 (fun x33_ e33 => ?_)
  refine r_i2b hC dX5_add_28 (fun x34_ e34 => ?_)
  refine x_bastore hC hkb nbt (by decide) rfl rfl dX5_add_29 (by omega) (by omega) (fun I35 eI35 => ?_)
  have hs35 := hs26.put0 eI35 hkb (rng_arr (by decide) _) rfl (xF_arr (by decide) _) (by decide)
  have hF35 := hF26.put eI35 hkb (inS_arr rfl _)
  have bs35 : BS bt L (fun i => bv x1 (sh i)) 3 I I35 := bs26.st eI35 (by have h9 := clampI (i := x32_) (by omega); omega) (by show _ = bv x1 (sh 2); unfold bv; rw [e34, e33, show x27_ = sh 2 from i32_of (by rw [show (sh 2).toInt = 8 from rfl]; omega)])
  refine r_aload_n hC dX5_add_30 1 rfl ?_
  refine r_dup hC dX5_add_31 rfl ?_
  refine r_geti hC 1 (ci := 5) rfl u5_in (by decide) mT_1_40 dX5_add_32 ka0 rfl rfl (fun x36_ e36 => ?_)
  have r36 := hs35.rng ka0 rfl e36
  have f36 : x36_.toInt = (I35 a0 1).toInt := by rw [e36]
  have w36 : x36_ = x32_ := by rw [e36]; exact (Eq.trans (up2_kk eI35 hkb ka0 (by decide)) e32.symm)
  have wt36 : x36_.toInt = x32_.toInt := by rw [w36]
  refine r_iconst hC (v := (1)) dX5_add_35 (by decide) (by decide) (fun x37_ e37 t37 => ?_)
  refine r_iadd hC dX5_add_36 (fun x38_ e38 => ?_)
  try have t38 : x38_.toInt = x36_.toInt + x37_.toInt := by rw [e38]; exact ti_add (by omega) (by omega)
  refine r_puti hC 1 (ci := 5) rfl u5_in tyX5_ok nmX5 (by decide) mT_1_40 rfl rfl rfl dX5_add_37 ka0 rfl rfl (fun I39 eI39 => ?_)
  have hs39 := hs35.put1 eI39 ka0 rfl (by omega) (by omega) rfl rfl (by decide)
  have hF39 := hF35.put eI39 ka0 rfl
  have bs39 := bs35.put eI39 ka0 hkb (by decide)
  obtain ⟨x40_, e40⟩ : ∃ z : Int32, z = x27_ + Int32.ofInt (-8) := ⟨_, rfl⟩
  refine r_iinc hC (j := 0) (v := x40_) (lv' := [(2, .int x40_), (0, .ref a0), (1, .int x1)]) dX5_add_40 rfl (by rw [e40]) (by decide) rfl ?_
  try have t40 : x40_.toInt = x27_.toInt + (-8) := by rw [e40]; exact (ti_add (b := Int32.ofInt (-8)) (by show _ ≤ _ + (-8 : Int); omega) (by show _ + (-8 : Int) ≤ _; omega))
  refine r_goto hC (tgt := 3) dX5_add_43 (by decide) ?_
  refine r_iload_n hC dX5_add_3 0 rfl ?_
  refine r_if_lt hC (tgt := 46) dX5_add_4 (by decide) (fun c41 => ?_) (fun c41 => ?_)
  · exfalso; omega
  refine r_aload_n hC dX5_add_7 1 rfl ?_
  refine r_geti hC 1 (ci := 5) rfl u5_in (by decide) mT_1_40 dX5_add_8 ka0 rfl rfl (fun x42_ e42 => ?_)
  have r42 := hs39.rng ka0 rfl e42
  have f42 : x42_.toInt = (I39 a0 1).toInt := by rw [e42]
  have w42 : x42_ = x38_ := by rw [e42]; exact (by rw [eI39]; exact up2_self _ _ _ _)
  have wt42 : x42_.toInt = x38_.toInt := by rw [w42]
  refine r_sipush hC (v := (900)) dX5_add_11 (by decide) (by decide) (fun x43_ e43 t43 => ?_)
  refine r_icmp_ge hC (tgt := 40) dX5_add_14 (by decide) (fun c44 => ?_) (fun c44 => ?_)
  · exfalso; omega
  refine r_aload_n hC dX5_add_17 1 rfl ?_
  refine r_getr hC 0 (ci := 5) rfl u5_in (by decide) mT_1_36 dX5_add_18 ka0 rfl rfl hbb ?_
  refine r_aload_n hC dX5_add_21 1 rfl ?_
  refine r_geti hC 1 (ci := 5) rfl u5_in (by decide) mT_1_40 dX5_add_22 ka0 rfl rfl (fun x45_ e45 => ?_)
  have r45 := hs39.rng ka0 rfl e45
  have f45 : x45_.toInt = (I39 a0 1).toInt := by rw [e45]
  have w45 : x45_ = x42_ := by rw [e45]; exact e42.symm
  have wt45 : x45_.toInt = x42_.toInt := by rw [w45]
  refine r_iload_n hC dX5_add_25 2 rfl ?_
  refine r_iload_n hC dX5_add_26 0 rfl ?_
  refine r_ishr hC dX5_add_27 (fun x46_ e46 => ?_)
  refine r_i2b hC dX5_add_28 (fun x47_ e47 => ?_)
  refine x_bastore hC hkb nbt (by decide) rfl rfl dX5_add_29 (by omega) (by omega) (fun I48 eI48 => ?_)
  have hs48 := hs39.put0 eI48 hkb (rng_arr (by decide) _) rfl (xF_arr (by decide) _) (by decide)
  have hF48 := hF39.put eI48 hkb (inS_arr rfl _)
  have bs48 : BS bt L (fun i => bv x1 (sh i)) 4 I I48 := bs39.st eI48 (by have h9 := clampI (i := x45_) (by omega); omega) (by show _ = bv x1 (sh 3); unfold bv; rw [e47, e46, show x40_ = sh 3 from i32_of (by rw [show (sh 3).toInt = 0 from rfl]; omega)])
  refine r_aload_n hC dX5_add_30 1 rfl ?_
  refine r_dup hC dX5_add_31 rfl ?_
  refine r_geti hC 1 (ci := 5) rfl u5_in (by decide) mT_1_40 dX5_add_32 ka0 rfl rfl (fun x49_ e49 => ?_)
  have r49 := hs48.rng ka0 rfl e49
  have f49 : x49_.toInt = (I48 a0 1).toInt := by rw [e49]
  have w49 : x49_ = x45_ := by rw [e49]; exact (Eq.trans (up2_kk eI48 hkb ka0 (by decide)) e45.symm)
  have wt49 : x49_.toInt = x45_.toInt := by rw [w49]
  refine r_iconst hC (v := (1)) dX5_add_35 (by decide) (by decide) (fun x50_ e50 t50 => ?_)
  refine r_iadd hC dX5_add_36 (fun x51_ e51 => ?_)
  try have t51 : x51_.toInt = x49_.toInt + x50_.toInt := by rw [e51]; exact ti_add (by omega) (by omega)
  refine r_puti hC 1 (ci := 5) rfl u5_in tyX5_ok nmX5 (by decide) mT_1_40 rfl rfl rfl dX5_add_37 ka0 rfl rfl (fun I52 eI52 => ?_)
  have hs52 := hs48.put1 eI52 ka0 rfl (by omega) (by omega) rfl rfl (by decide)
  have hF52 := hF48.put eI52 ka0 rfl
  have bs52 := bs48.put eI52 ka0 hkb (by decide)
  obtain ⟨x53_, e53⟩ : ∃ z : Int32, z = x40_ + Int32.ofInt (-8) := ⟨_, rfl⟩
  refine r_iinc hC (j := 0) (v := x53_) (lv' := [(2, .int x53_), (0, .ref a0), (1, .int x1)]) dX5_add_40 rfl (by rw [e53]) (by decide) rfl ?_
  try have t53 : x53_.toInt = x40_.toInt + (-8) := by rw [e53]; exact (ti_add (b := Int32.ofInt (-8)) (by show _ ≤ _ + (-8 : Int); omega) (by show _ + (-8 : Int) ≤ _; omega))
  refine r_goto hC (tgt := 3) dX5_add_43 (by decide) ?_
  refine r_iload_n hC dX5_add_3 0 rfl ?_
  refine r_if_lt hC (tgt := 46) dX5_add_4 (by decide) (fun c54 => ?_) (fun c54 => ?_)
  rotate_left
  · exfalso; omega
  have hv1 : I52 a0 1 = x51_ := (by rw [eI52]; exact up2_self _ _ _ _)
  have hv1t : (I52 a0 1).toInt = x51_.toInt := congrArg Int32.toInt hv1
  exact r_vret hC hQ hlk hr (by decide) (by decide) dX5_add_46 ⟨_, rfl, rfl, ⟨hs52, hF52, (by omega), (by exact bs52)⟩⟩
set_option maxHeartbeats 4000000 in
set_option maxRecDepth 100000 in
theorem f_X8_feed (g : GG) (l : Launch) (K len : Nat → Nat) (I : Nat → Nat → Int32) (J : Nat → Nat → Int64) (R : Nat → Nat → Option Nat) (hs : Sf K len I R) (a0 : Nat) (ka0 : K a0 = 9) (x1 : Int32) (x2 : Int32) (x3 : Int32) (x4 : Int32) (x5 : Int32) (tp : Nat) (htp : R a0 0 = some tp) (hkt : K tp = 6) (bt : Nat) (hbb : R tp 0 = some bt) (hkb : K bt = 40) (nbt : len bt = 900) (N : Nat) (hN : (I tp 1).toInt = N) : Ct g l yX8_feed cX8_feed 6 (Option.some Jvm.ClassFile.FieldType.int) rmX8_feed [.ref a0, .int x1, .int x2, .int x3, .int x4, .int x5] (K, len, I, J, R) (pI1 (K, len, I, J, R) (fun r I' => Sf K len I' R ∧ Fr K [(6, 1), (40, 999)] I I' ∧ ((880 < N ∧ I' = I) ∨ (N ≤ 880 ∧ (I' tp 1).toInt = (N : Int) + 20 ∧ BS bt N (fb x1 x2 x3 x4 x5) 20 I I')))) := by
  refine Ct_intro (by decide +kernel) (Nat.le_of_ble_eq_true rfl) (fun X hC hL hKK hNm hr hlk hQ => ?_)
  subst hL
  have hC : Cx g X cX8_feed "HillTap" 6 rmX8_feed := hC
  show P g X 6 0 [(0, .ref a0), (1, .int x1), (2, .int x2), (3, .int x3), (4, .int x4), (5, .int x5)] [] 0 0 (K, len, I, J, R)
  have hF : Fr K [(6, 1), (40, 999)] I I := Fr.refl
  have b_x1 := ti_rng x1
  have b_x2 := ti_rng x2
  have b_x3 := ti_rng x3
  have b_x4 := ti_rng x4
  have b_x5 := ti_rng x5
  obtain ⟨L0, eL0⟩ : ∃ z : Int32, z = I tp 1 := ⟨_, rfl⟩
  have fL0 : L0.toInt = (I tp 1).toInt := by rw [eL0]
  have rL0 := hs.rng hkt rfl eL0
  refine r_aload_n hC dX8_feed_0 0 rfl ?_
  refine r_getr hC 0 (ci := 8) rfl u8_in (by decide) mT_2_78 dX8_feed_1 ka0 rfl rfl htp ?_
  refine r_geti hC 1 (ci := 5) rfl u5_in (by decide) mT_1_38 dX8_feed_4 hkt rfl rfl (fun x1_ e1 => ?_)
  have r1 := hs.rng hkt rfl e1
  have f1 : x1_.toInt = (I tp 1).toInt := by rw [e1]
  have w1 : x1_ = L0 := by rw [e1]; exact eL0.symm
  have wt1 : x1_.toInt = L0.toInt := by rw [w1]
  refine r_sipush hC (v := (880)) dX8_feed_7 (by decide) (by decide) (fun x2_ e2 t2 => ?_)
  refine r_icmp_le hC (tgt := 15) dX8_feed_10 (by decide) (fun c3 => ?_) (fun c3 => ?_)
  · refine r_aload_n hC dX8_feed_15 0 rfl ?_
    refine r_getr hC 0 (ci := 8) rfl u8_in (by decide) mT_2_78 dX8_feed_16 ka0 rfl rfl htp ?_
    refine r_iload_n hC dX8_feed_19 1 rfl ?_
    refine r_callV hC (As := [.int x1]) (rest := []) (ci := 5) (f_X5_add g (xL X) K len I J R hs tp hkt x1 bt hbb hkb nbt (N + 0) (by omega) (by omega)) mT_2_125 mT_1_2 mT_2_122 mT_2_123 mT_2_124 okX5_add ⟨by decide, by decide⟩ rfl (by show kO (K tp) = _; rw [hkt]; rfl) rfl rfl (Nat.le_of_ble_eq_true rfl) ⟨by decide, by decide⟩ dX8_feed_20 (aV1 (F := fun st M => P g X 6 23 [(0, .ref a0), (1, .int x1), (2, .int x2), (3, .int x3), (4, .int x4), (5, .int x5)] st _ _ M) (M := (K, len, I, J, R)) fun I4 h4 => ?_)
    obtain ⟨hs4, hf4, k4_0, k4_1⟩ := h4
    show P g X 6 23 [(0, .ref a0), (1, .int x1), (2, .int x2), (3, .int x3), (4, .int x4), (5, .int x5)] [] _ _ (K, len, I4, J, R)
    have hF4 : Fr K [(6, 1), (40, 999)] I I4 := hF.trans hf4 rfl rfl
    have bs4 := (BS.rf (bt := bt) (L := N) (f := fb x1 x2 x3 x4 x5) (I := I)).cat k4_1 (fun i hi => by show bv x1 (sh i) = _; rw [fb_0 (by omega), sh_4 (by decide)])
    refine r_aload_n hC dX8_feed_23 0 rfl ?_
    refine r_getr hC 0 (ci := 8) rfl u8_in (by decide) mT_2_78 dX8_feed_24 ka0 rfl rfl htp ?_
    refine r_iload_n hC dX8_feed_27 2 rfl ?_
    refine r_callV hC (As := [.int x2]) (rest := []) (ci := 5) (f_X5_add g (xL X) K len I4 J R hs4 tp hkt x2 bt hbb hkb nbt (N + 4) (by omega) (by omega)) mT_2_125 mT_1_2 mT_2_122 mT_2_123 mT_2_124 okX5_add ⟨by decide, by decide⟩ rfl (by show kO (K tp) = _; rw [hkt]; rfl) rfl rfl (Nat.le_of_ble_eq_true rfl) ⟨by decide, by decide⟩ dX8_feed_28 (aV1 (F := fun st M => P g X 6 31 [(0, .ref a0), (1, .int x1), (2, .int x2), (3, .int x3), (4, .int x4), (5, .int x5)] st _ _ M) (M := (K, len, I4, J, R)) fun I5 h5 => ?_)
    obtain ⟨hs5, hf5, k5_0, k5_1⟩ := h5
    show P g X 6 31 [(0, .ref a0), (1, .int x1), (2, .int x2), (3, .int x3), (4, .int x4), (5, .int x5)] [] _ _ (K, len, I5, J, R)
    have hF5 : Fr K [(6, 1), (40, 999)] I I5 := hF4.trans hf5 rfl rfl
    have bs5 := bs4.cat k5_1 (fun i hi => by show bv x2 (sh i) = _; rw [fb_1 (by omega) (by omega), sh_4 (by decide)])
    refine r_aload_n hC dX8_feed_31 0 rfl ?_
    refine r_getr hC 0 (ci := 8) rfl u8_in (by decide) mT_2_78 dX8_feed_32 ka0 rfl rfl htp ?_
    refine r_iload_n hC dX8_feed_35 3 rfl ?_
    refine r_callV hC (As := [.int x3]) (rest := []) (ci := 5) (f_X5_add g (xL X) K len I5 J R hs5 tp hkt x3 bt hbb hkb nbt (N + 8) (by omega) (by omega)) mT_2_125 mT_1_2 mT_2_122 mT_2_123 mT_2_124 okX5_add ⟨by decide, by decide⟩ rfl (by show kO (K tp) = _; rw [hkt]; rfl) rfl rfl (Nat.le_of_ble_eq_true rfl) ⟨by decide, by decide⟩ dX8_feed_36 (aV1 (F := fun st M => P g X 6 39 [(0, .ref a0), (1, .int x1), (2, .int x2), (3, .int x3), (4, .int x4), (5, .int x5)] st _ _ M) (M := (K, len, I5, J, R)) fun I6 h6 => ?_)
    obtain ⟨hs6, hf6, k6_0, k6_1⟩ := h6
    show P g X 6 39 [(0, .ref a0), (1, .int x1), (2, .int x2), (3, .int x3), (4, .int x4), (5, .int x5)] [] _ _ (K, len, I6, J, R)
    have hF6 : Fr K [(6, 1), (40, 999)] I I6 := hF5.trans hf6 rfl rfl
    have bs6 := bs5.cat k6_1 (fun i hi => by show bv x3 (sh i) = _; rw [fb_2 (by omega) (by omega), sh_4 (by decide)])
    refine r_aload_n hC dX8_feed_39 0 rfl ?_
    refine r_getr hC 0 (ci := 8) rfl u8_in (by decide) mT_2_78 dX8_feed_40 ka0 rfl rfl htp ?_
    refine r_iload hC dX8_feed_43 4 rfl ?_
    refine r_callV hC (As := [.int x4]) (rest := []) (ci := 5) (f_X5_add g (xL X) K len I6 J R hs6 tp hkt x4 bt hbb hkb nbt (N + 12) (by omega) (by omega)) mT_2_125 mT_1_2 mT_2_122 mT_2_123 mT_2_124 okX5_add ⟨by decide, by decide⟩ rfl (by show kO (K tp) = _; rw [hkt]; rfl) rfl rfl (Nat.le_of_ble_eq_true rfl) ⟨by decide, by decide⟩ dX8_feed_45 (aV1 (F := fun st M => P g X 6 48 [(0, .ref a0), (1, .int x1), (2, .int x2), (3, .int x3), (4, .int x4), (5, .int x5)] st _ _ M) (M := (K, len, I6, J, R)) fun I7 h7 => ?_)
    obtain ⟨hs7, hf7, k7_0, k7_1⟩ := h7
    show P g X 6 48 [(0, .ref a0), (1, .int x1), (2, .int x2), (3, .int x3), (4, .int x4), (5, .int x5)] [] _ _ (K, len, I7, J, R)
    have hF7 : Fr K [(6, 1), (40, 999)] I I7 := hF6.trans hf7 rfl rfl
    have bs7 := bs6.cat k7_1 (fun i hi => by show bv x4 (sh i) = _; rw [fb_3 (by omega) (by omega), sh_4 (by decide)])
    refine r_aload_n hC dX8_feed_48 0 rfl ?_
    refine r_getr hC 0 (ci := 8) rfl u8_in (by decide) mT_2_78 dX8_feed_49 ka0 rfl rfl htp ?_
    refine r_iload hC dX8_feed_52 5 rfl ?_
    refine r_callV hC (As := [.int x5]) (rest := []) (ci := 5) (f_X5_add g (xL X) K len I7 J R hs7 tp hkt x5 bt hbb hkb nbt (N + 16) (by omega) (by omega)) mT_2_125 mT_1_2 mT_2_122 mT_2_123 mT_2_124 okX5_add ⟨by decide, by decide⟩ rfl (by show kO (K tp) = _; rw [hkt]; rfl) rfl rfl (Nat.le_of_ble_eq_true rfl) ⟨by decide, by decide⟩ dX8_feed_54 (aV1 (F := fun st M => P g X 6 57 [(0, .ref a0), (1, .int x1), (2, .int x2), (3, .int x3), (4, .int x4), (5, .int x5)] st _ _ M) (M := (K, len, I7, J, R)) fun I8 h8 => ?_)
    obtain ⟨hs8, hf8, k8_0, k8_1⟩ := h8
    show P g X 6 57 [(0, .ref a0), (1, .int x1), (2, .int x2), (3, .int x3), (4, .int x4), (5, .int x5)] [] _ _ (K, len, I8, J, R)
    have hF8 : Fr K [(6, 1), (40, 999)] I I8 := hF7.trans hf8 rfl rfl
    have bs8 := bs7.cat k8_1 (fun i hi => by show bv x5 (sh i) = _; rw [fb_4 (by omega), sh_4 (by decide)])
    refine r_aload_n hC dX8_feed_57 0 rfl ?_
    refine r_getr hC 0 (ci := 8) rfl u8_in (by decide) mT_2_78 dX8_feed_58 ka0 rfl rfl htp ?_
    refine r_geti hC 1 (ci := 5) rfl u5_in (by decide) mT_1_38 dX8_feed_61 hkt rfl rfl (fun x9_ e9 => ?_)
    have r9 := hs8.rng hkt rfl e9
    have f9 : x9_.toInt = (I8 tp 1).toInt := by rw [e9]
    exact r_iret hC hQ hlk hr rfl (by decide) (by decide) dX8_feed_64 ⟨_, _, rfl, rfl, ⟨hs8, hF8, (by first | exact Or.inl ⟨by omega, rfl⟩ | exact Or.inr ⟨by omega, by omega, bs8⟩)⟩⟩
  · refine r_iconst hC (v := (-1)) dX8_feed_13 (by decide) (by decide) (fun x10_ e10 t10 => ?_)
    exact r_iret hC hQ hlk hr rfl (by decide) (by decide) dX8_feed_14 ⟨_, _, rfl, rfl, ⟨hs, hF, (by first | exact Or.inl ⟨by omega, rfl⟩ | exact Or.inr ⟨by omega, by omega, (BS.rf (bt := bt) (L := N) (f := fb x1 x2 x3 x4 x5) (I := I))⟩)⟩⟩
set_option maxHeartbeats 4000000 in
set_option maxRecDepth 100000 in
theorem f_X10_feed (g : GG) (l : Launch) (K len : Nat → Nat) (I : Nat → Nat → Int32) (J : Nat → Nat → Int64) (R : Nat → Nat → Option Nat) (hs : Sf K len I R) (a0 : Nat) (ka0 : K a0 = 11) (x1 : Int32) (x2 : Int32) (x3 : Int32) (x4 : Int32) (x5 : Int32) (mt : Nat) (hmt : R a0 5 = some mt) (kmt : K mt = 49) (nmt : len mt = 900) (N : Nat) (hN : (I a0 6).toInt = N) : Ct g l yX10_feed cX10_feed 8 (Option.some Jvm.ClassFile.FieldType.int) rmX10_feed [.ref a0, .int x1, .int x2, .int x3, .int x4, .int x5] (K, len, I, J, R) (pI1 (K, len, I, J, R) (fun r I' => Sf K len I' R ∧ Fr K [(11, 0), (11, 6), (49, 999)] I I' ∧ ((880 < N ∧ (I' a0 6).toInt = N ∧ I' mt = I mt) ∨ (N ≤ 880 ∧ (I' a0 6).toInt = (N : Int) + 20 ∧ BS mt N (fb x1 x2 x3 x4 x5) 20 I I')))) := by
  refine Ct_intro (by decide +kernel) (Nat.le_of_ble_eq_true rfl) (fun X hC hL hKK hNm hr hlk hQ => ?_)
  subst hL
  have hC : Cx g X cX10_feed "HillTapModel" 8 rmX10_feed := hC
  show P g X 8 0 [(0, .ref a0), (1, .int x1), (2, .int x2), (3, .int x3), (4, .int x4), (5, .int x5)] [] 0 0 (K, len, I, J, R)
  have hF : Fr K [(11, 0), (11, 6), (49, 999)] I I := Fr.refl
  have b_x1 := ti_rng x1
  have b_x2 := ti_rng x2
  have b_x3 := ti_rng x3
  have b_x4 := ti_rng x4
  have b_x5 := ti_rng x5
  obtain ⟨L0, eL0⟩ : ∃ z : Int32, z = I a0 6 := ⟨_, rfl⟩
  have fL0 : L0.toInt = (I a0 6).toInt := by rw [eL0]
  have rL0 := hs.rng ka0 rfl eL0
  refine r_aload_n hC dX10_feed_0 0 rfl ?_
  refine r_iconst hC (v := (0)) dX10_feed_1 (by decide) (by decide) (fun x1_ e1 t1 => ?_)
  refine r_puti hC 0 (ci := 10) rfl u10_in tyX10_ok nmX10 (by decide) mT_4_235 rfl rfl rfl dX10_feed_2 ka0 rfl rfl (fun I2 eI2 => ?_)
  have hs2 := hs.put0 eI2 ka0 rfl rfl rfl (by decide)
  have hF2 := hF.put eI2 ka0 rfl
  have bs2 := (BS.rf (bt := mt) (L := N) (f := fb x1 x2 x3 x4 x5) (I := I)).put eI2 ka0 kmt (by decide)
  refine r_aload_n hC dX10_feed_5 0 rfl ?_
  refine r_geti hC 6 (ci := 10) rfl u10_in (by decide) mT_5_1 dX10_feed_6 ka0 rfl rfl (fun x3_ e3 => ?_)
  have r3 := hs2.rng ka0 rfl e3
  have f3 : x3_.toInt = (I2 a0 6).toInt := by rw [e3]
  have w3 : x3_ = L0 := by rw [e3]; exact (Eq.trans (up2_at (Or.inr (by decide)) eI2) eL0.symm)
  have wt3 : x3_.toInt = L0.toInt := by rw [w3]
  refine r_bipush hC (v := (20)) dX10_feed_9 (by decide) (by decide) (fun x4_ e4 t4 => ?_)
  refine r_iadd hC dX10_feed_11 (fun x5_ e5 => ?_)
  try have t5 : x5_.toInt = x3_.toInt + x4_.toInt := by rw [e5]; exact ti_add (by omega) (by omega)
  refine r_sipush hC (v := (900)) dX10_feed_12 (by decide) (by decide) (fun x6_ e6 t6 => ?_)
  refine r_icmp_le hC (tgt := 20) dX10_feed_15 (by decide) (fun c7 => ?_) (fun c7 => ?_)
  · refine r_iconst hC (v := (0)) dX10_feed_20 (by decide) (by decide) (fun x8_ e8 t8 => ?_)
    refine r_istore hC (lv' := [(6, .int x8_), (0, .ref a0), (1, .int x1), (2, .int x2), (3, .int x3), (4, .int x4), (5, .int x5)]) dX10_feed_21 (by decide) rfl ?_
    have LP9 : ∀ (mu : Nat) (x9_6 : Int32) (I9 : Nat → Nat → Int32) (hs9 : Sf K len I9 R) (hF9 : Fr K [(11, 0), (11, 6), (49, 999)] I I9) (v9_0 : 0 ≤ x9_6.toInt) (v9_1 : x9_6.toInt ≤ 20) (v9_2 : (I9 a0 6).toInt = (N : Int) + x9_6.toInt) (v9_3 : BS mt N (fb x1 x2 x3 x4 x5) x9_6.toInt.toNat I I9), (20 - x9_6.toInt).toNat = mu → P g X 8 23 [(0, .ref a0), (1, .int x1), (2, .int x2), (3, .int x3), (4, .int x4), (5, .int x5), (6, .int x9_6)] [] 0 0 (K, len, I9, J, R) := by
      intro mu; induction mu using Nat.strongRecOn with | ind mu ih => ?_
      intro x9_6 I9 hs9 hF9 v9_0 v9_1 v9_2 v9_3 hmu
      have ih9 := ih
      clear ih
      have hmu9 := hmu
      clear hmu
      refine r_iload hC dX10_feed_23 6 rfl ?_
      refine r_bipush hC (v := (20)) dX10_feed_25 (by decide) (by decide) (fun x10_ e10 t10 => ?_)
      refine r_icmp_ge hC (tgt := 117) dX10_feed_27 (by decide) (fun c11 => ?_) (fun c11 => ?_)
      · refine r_aload_n hC dX10_feed_117 0 rfl ?_
        refine r_geti hC 6 (ci := 10) rfl u10_in (by decide) mT_5_1 dX10_feed_118 ka0 rfl rfl (fun x12_ e12 => ?_)
        have r12 := hs9.rng ka0 rfl e12
        have f12 : x12_.toInt = (I9 a0 6).toInt := by rw [e12]
        have hv6 : I9 a0 6 = x12_ := e12.symm
        have hv6t : (I9 a0 6).toInt = x12_.toInt := congrArg Int32.toInt hv6
        exact r_iret hC hQ hlk hr rfl (by decide) (by decide) dX10_feed_121 ⟨_, _, rfl, rfl, ⟨hs9, hF9, (by first | exact Or.inl ⟨by omega, by omega, funext fun j => hF9.get kmt (by first | rfl | decide)⟩ | exact Or.inl ⟨by omega, by omega, funext fun j => up2_kk (by assumption) ka0 kmt (by decide)⟩ | exact Or.inr ⟨by omega, by omega, by have h9 := v9_3; rw [show x9_6.toInt.toNat = 20 by omega] at h9; exact h9⟩)⟩⟩
      · refine r_iload hC dX10_feed_30 6 rfl ?_
        refine r_iconst hC (v := (4)) dX10_feed_32 (by decide) (by decide) (fun x13_ e13 t13 => ?_)
        refine r_icmp_ge hC (tgt := 40) dX10_feed_33 (by decide) (fun c14 => ?_) (fun c14 => ?_)
        · refine r_iload hC dX10_feed_40 6 rfl ?_
          refine r_bipush hC (v := (8)) dX10_feed_42 (by decide) (by decide) (fun x15_ e15 t15 => ?_)
          refine r_icmp_ge hC (tgt := 51) dX10_feed_44 (by decide) (fun c16 => ?_) (fun c16 => ?_)
          · refine r_iload hC dX10_feed_51 6 rfl ?_
            refine r_bipush hC (v := (12)) dX10_feed_53 (by decide) (by decide) (fun x17_ e17 t17 => ?_)
            refine r_icmp_ge hC (tgt := 62) dX10_feed_55 (by decide) (fun c18 => ?_) (fun c18 => ?_)
            · refine r_iload hC dX10_feed_62 6 rfl ?_
              refine r_bipush hC (v := (16)) dX10_feed_64 (by decide) (by decide) (fun x19_ e19 t19 => ?_)
              refine r_icmp_ge hC (tgt := 74) dX10_feed_66 (by decide) (fun c20 => ?_) (fun c20 => ?_)
              · refine r_iload hC dX10_feed_74 5 rfl ?_
                refine r_istore hC (lv' := [(7, .int x5), (0, .ref a0), (1, .int x1), (2, .int x2), (3, .int x3), (4, .int x4), (5, .int x5), (6, .int x9_6)]) dX10_feed_76 (by decide) rfl ?_
                refine r_aload_n hC dX10_feed_78 1 rfl ?_
                refine r_getr hC 5 (ci := 10) rfl u10_in (by decide) mT_5_0 dX10_feed_79 ka0 rfl rfl hmt ?_
                refine r_aload_n hC dX10_feed_82 1 rfl ?_
                refine r_geti hC 6 (ci := 10) rfl u10_in (by decide) mT_5_1 dX10_feed_83 ka0 rfl rfl (fun x21_ e21 => ?_)
                have r21 := hs9.rng ka0 rfl e21
                have f21 : x21_.toInt = (I9 a0 6).toInt := by rw [e21]
                refine r_iload hC dX10_feed_86 0 rfl ?_
                refine r_bipush hC (v := (24)) dX10_feed_88 (by decide) (by decide) (fun x22_ e22 t22 => ?_)
                refine r_bipush hC (v := (8)) dX10_feed_90 (by decide) (by decide) (fun x23_ e23 t23 => ?_)
                refine r_iload hC dX10_feed_92 7 rfl ?_
                refine r_iconst hC (v := (4)) dX10_feed_94 (by decide) (by decide) (fun x24_ e24 t24 => ?_)
                refine r_irem hC dX10_feed_95 (ne_0 (by omega)) (fun x25_ e25 => ?_)
                refine r_imul hC dX10_feed_96 (fun x26_ e26 => ?_)
                try have t26 : x26_.toInt = (8) * x25_.toInt := by rw [e26]; exact ti_mul (by omega) rfl (by omega) (by omega)
                refine r_isub hC dX10_feed_97 (fun x27_ e27 => ?_)
                try have t27 : x27_.toInt = x22_.toInt - x26_.toInt := by rw [e27]; exact ti_sub (by omega) (by omega)
                refine r_ishr hC dX10_feed_98 (fun x28_ e28 => ?_)
                refine r_i2b hC dX10_feed_99 (fun x29_ e29 => ?_)
                refine x_bastore hC kmt nmt (by decide) rfl rfl dX10_feed_100 (by omega) (by omega) (fun I30 eI30 => ?_)
                have hs30 := hs9.put0 eI30 kmt (rng_arr (by decide) _) rfl (xF_arr (by decide) _) (by decide)
                have hF30 := hF9.put eI30 kmt (inS_arr rfl _)
                have bs30 := v9_3.st eI30 (by have h9 := clampI (i := x21_) (by omega); omega) (by rw [fb_4 (by omega)]; unfold bv; rw [e29, e28, sh_k (k := x9_6) (by omega) (by omega) e24 e23 e22 e25 e26 e27])
                refine r_aload_n hC dX10_feed_101 1 rfl ?_
                refine r_dup hC dX10_feed_102 rfl ?_
                refine r_geti hC 6 (ci := 10) rfl u10_in (by decide) mT_5_1 dX10_feed_103 ka0 rfl rfl (fun x31_ e31 => ?_)
                have r31 := hs30.rng ka0 rfl e31
                have f31 : x31_.toInt = (I30 a0 6).toInt := by rw [e31]
                have w31 : x31_ = x21_ := by rw [e31]; exact (Eq.trans (up2_kk eI30 kmt ka0 (by decide)) e21.symm)
                have wt31 : x31_.toInt = x21_.toInt := by rw [w31]
                refine r_iconst hC (v := (1)) dX10_feed_106 (by decide) (by decide) (fun x32_ e32 t32 => ?_)
                refine r_iadd hC dX10_feed_107 (fun x33_ e33 => ?_)
                try have t33 : x33_.toInt = x31_.toInt + x32_.toInt := by rw [e33]; exact ti_add (by omega) (by omega)
                refine r_puti hC 6 (ci := 10) rfl u10_in tyX10_ok nmX10 (by decide) mT_5_1 rfl rfl rfl dX10_feed_108 ka0 rfl rfl (fun I34 eI34 => ?_)
                have hs34 := hs30.put1 eI34 ka0 rfl (by omega) (by omega) rfl rfl (by decide)
                have hF34 := hF30.put eI34 ka0 rfl
                have bs34 := bs30.put eI34 ka0 kmt (by decide)
                obtain ⟨x35_, e35⟩ : ∃ z : Int32, z = x9_6 + Int32.ofInt (1) := ⟨_, rfl⟩
                refine r_iinc hC (j := 7) (v := x35_) (lv' := [(6, .int x35_), (7, .int x5), (0, .ref a0), (1, .int x1), (2, .int x2), (3, .int x3), (4, .int x4), (5, .int x5)]) dX10_feed_111 rfl (by rw [e35]) (by decide) rfl ?_
                try have t35 : x35_.toInt = x9_6.toInt + (1) := by rw [e35]; exact (ti_add (b := Int32.ofInt (1)) (by show _ ≤ _ + (1 : Int); omega) (by show _ + (1 : Int) ≤ _; omega))
                refine r_goto hC (tgt := 23) dX10_feed_114 (by decide) ?_
                have hv6 : I34 a0 6 = x33_ := (by rw [eI34]; exact up2_self _ _ _ _)
                have hv6t : (I34 a0 6).toInt = x33_.toInt := congrArg Int32.toInt hv6
                refine r_sub [2, 3, 4, 5, 6, 7, 0] rfl ?_
                exact ih9 ((20 - x35_.toInt).toNat) (by omega) x35_ I34 hs34 hF34 (by omega) (by omega) (by omega) (by first | (rw [show x35_.toInt.toNat = 0 by omega]; exact bs34) | (rw [show x35_.toInt.toNat = x9_6.toInt.toNat + 1 by omega]; exact bs34)) rfl
              · refine r_iload hC dX10_feed_69 4 rfl ?_
                refine r_goto hC (tgt := 76) dX10_feed_71 (by decide) ?_
                refine r_istore hC (lv' := [(7, .int x4), (0, .ref a0), (1, .int x1), (2, .int x2), (3, .int x3), (4, .int x4), (5, .int x5), (6, .int x9_6)]) dX10_feed_76 (by decide) rfl ?_
                refine r_aload_n hC dX10_feed_78 1 rfl ?_
                refine r_getr hC 5 (ci := 10) rfl u10_in (by decide) mT_5_0 dX10_feed_79 ka0 rfl rfl hmt ?_
                refine r_aload_n hC dX10_feed_82 1 rfl ?_
                refine r_geti hC 6 (ci := 10) rfl u10_in (by decide) mT_5_1 dX10_feed_83 ka0 rfl rfl (fun x36_ e36 => ?_)
                have r36 := hs9.rng ka0 rfl e36
                have f36 : x36_.toInt = (I9 a0 6).toInt := by rw [e36]
                refine r_iload hC dX10_feed_86 0 rfl ?_
                refine r_bipush hC (v := (24)) dX10_feed_88 (by decide) (by decide) (fun x37_ e37 t37 => ?_)
                refine r_bipush hC (v := (8)) dX10_feed_90 (by decide) (by decide) (fun x38_ e38 t38 => ?_)
                refine r_iload hC dX10_feed_92 7 rfl ?_
                refine r_iconst hC (v := (4)) dX10_feed_94 (by decide) (by decide) (fun x39_ e39 t39 => ?_)
                refine r_irem hC dX10_feed_95 (ne_0 (by omega)) (fun x40_ e40 => ?_)
                refine r_imul hC dX10_feed_96 (fun x41_ e41 => ?_)
                try have t41 : x41_.toInt = (8) * x40_.toInt := by rw [e41]; exact ti_mul (by omega) rfl (by omega) (by omega)
                refine r_isub hC dX10_feed_97 (fun x42_ e42 => ?_)
                try have t42 : x42_.toInt = x37_.toInt - x41_.toInt := by rw [e42]; exact ti_sub (by omega) (by omega)
                refine r_ishr hC dX10_feed_98 (fun x43_ e43 => ?_)
                refine r_i2b hC dX10_feed_99 (fun x44_ e44 => ?_)
                refine x_bastore hC kmt nmt (by decide) rfl rfl dX10_feed_100 (by omega) (by omega) (fun I45 eI45 => ?_)
                have hs45 := hs9.put0 eI45 kmt (rng_arr (by decide) _) rfl (xF_arr (by decide) _) (by decide)
                have hF45 := hF9.put eI45 kmt (inS_arr rfl _)
                have bs45 := v9_3.st eI45 (by have h9 := clampI (i := x36_) (by omega); omega) (by rw [fb_3 (by omega) (by omega)]; unfold bv; rw [e44, e43, sh_k (k := x9_6) (by omega) (by omega) e39 e38 e37 e40 e41 e42])
                refine r_aload_n hC dX10_feed_101 1 rfl ?_
                refine r_dup hC dX10_feed_102 rfl ?_
                refine r_geti hC 6 (ci := 10) rfl u10_in (by decide) mT_5_1 dX10_feed_103 ka0 rfl rfl (fun x46_ e46 => ?_)
                have r46 := hs45.rng ka0 rfl e46
                have f46 : x46_.toInt = (I45 a0 6).toInt := by rw [e46]
                have w46 : x46_ = x36_ := by rw [e46]; exact (Eq.trans (up2_kk eI45 kmt ka0 (by decide)) e36.symm)
                have wt46 : x46_.toInt = x36_.toInt := by rw [w46]
                refine r_iconst hC (v := (1)) dX10_feed_106 (by decide) (by decide) (fun x47_ e47 t47 => ?_)
                refine r_iadd hC dX10_feed_107 (fun x48_ e48 => ?_)
                try have t48 : x48_.toInt = x46_.toInt + x47_.toInt := by rw [e48]; exact ti_add (by omega) (by omega)
                refine r_puti hC 6 (ci := 10) rfl u10_in tyX10_ok nmX10 (by decide) mT_5_1 rfl rfl rfl dX10_feed_108 ka0 rfl rfl (fun I49 eI49 => ?_)
                have hs49 := hs45.put1 eI49 ka0 rfl (by omega) (by omega) rfl rfl (by decide)
                have hF49 := hF45.put eI49 ka0 rfl
                have bs49 := bs45.put eI49 ka0 kmt (by decide)
                obtain ⟨x50_, e50⟩ : ∃ z : Int32, z = x9_6 + Int32.ofInt (1) := ⟨_, rfl⟩
                refine r_iinc hC (j := 7) (v := x50_) (lv' := [(6, .int x50_), (7, .int x4), (0, .ref a0), (1, .int x1), (2, .int x2), (3, .int x3), (4, .int x4), (5, .int x5)]) dX10_feed_111 rfl (by rw [e50]) (by decide) rfl ?_
                try have t50 : x50_.toInt = x9_6.toInt + (1) := by rw [e50]; exact (ti_add (b := Int32.ofInt (1)) (by show _ ≤ _ + (1 : Int); omega) (by show _ + (1 : Int) ≤ _; omega))
                refine r_goto hC (tgt := 23) dX10_feed_114 (by decide) ?_
                have hv6 : I49 a0 6 = x48_ := (by rw [eI49]; exact up2_self _ _ _ _)
                have hv6t : (I49 a0 6).toInt = x48_.toInt := congrArg Int32.toInt hv6
                refine r_sub [2, 3, 4, 5, 6, 7, 0] rfl ?_
                exact ih9 ((20 - x50_.toInt).toNat) (by omega) x50_ I49 hs49 hF49 (by omega) (by omega) (by omega) (by first | (rw [show x50_.toInt.toNat = 0 by omega]; exact bs49) | (rw [show x50_.toInt.toNat = x9_6.toInt.toNat + 1 by omega]; exact bs49)) rfl
            · refine r_iload_n hC dX10_feed_58 3 rfl ?_
              refine r_goto hC (tgt := 76) dX10_feed_59 (by decide) ?_
              refine r_istore hC (lv' := [(7, .int x3), (0, .ref a0), (1, .int x1), (2, .int x2), (3, .int x3), (4, .int x4), (5, .int x5), (6, .int x9_6)]) dX10_feed_76 (by decide) rfl ?_
              refine r_aload_n hC dX10_feed_78 1 rfl ?_
              refine r_getr hC 5 (ci := 10) rfl u10_in (by decide) mT_5_0 dX10_feed_79 ka0 rfl rfl hmt ?_
              refine r_aload_n hC dX10_feed_82 1 rfl ?_
              refine r_geti hC 6 (ci := 10) rfl u10_in (by decide) mT_5_1 dX10_feed_83 ka0 rfl rfl (fun x51_ e51 => ?_)
              have r51 := hs9.rng ka0 rfl e51
              have f51 : x51_.toInt = (I9 a0 6).toInt := by rw [e51]
              refine r_iload hC dX10_feed_86 0 rfl ?_
              refine r_bipush hC (v := (24)) dX10_feed_88 (by decide) (by decide) (fun x52_ e52 t52 => ?_)
              refine r_bipush hC (v := (8)) dX10_feed_90 (by decide) (by decide) (fun x53_ e53 t53 => ?_)
              refine r_iload hC dX10_feed_92 7 rfl ?_
              refine r_iconst hC (v := (4)) dX10_feed_94 (by decide) (by decide) (fun x54_ e54 t54 => ?_)
              refine r_irem hC dX10_feed_95 (ne_0 (by omega)) (fun x55_ e55 => ?_)
              refine r_imul hC dX10_feed_96 (fun x56_ e56 => ?_)
              try have t56 : x56_.toInt = (8) * x55_.toInt := by rw [e56]; exact ti_mul (by omega) rfl (by omega) (by omega)
              refine r_isub hC dX10_feed_97 (fun x57_ e57 => ?_)
              try have t57 : x57_.toInt = x52_.toInt - x56_.toInt := by rw [e57]; exact ti_sub (by omega) (by omega)
              refine r_ishr hC dX10_feed_98 (fun x58_ e58 => ?_)
              refine r_i2b hC dX10_feed_99 (fun x59_ e59 => ?_)
              refine x_bastore hC kmt nmt (by decide) rfl rfl dX10_feed_100 (by omega) (by omega) (fun I60 eI60 => ?_)
              have hs60 := hs9.put0 eI60 kmt (rng_arr (by decide) _) rfl (xF_arr (by decide) _) (by decide)
              have hF60 := hF9.put eI60 kmt (inS_arr rfl _)
              have bs60 := v9_3.st eI60 (by have h9 := clampI (i := x51_) (by omega); omega) (by rw [fb_2 (by omega) (by omega)]; unfold bv; rw [e59, e58, sh_k (k := x9_6) (by omega) (by omega) e54 e53 e52 e55 e56 e57])
              refine r_aload_n hC dX10_feed_101 1 rfl ?_
              refine r_dup hC dX10_feed_102 rfl ?_
              refine r_geti hC 6 (ci := 10) rfl u10_in (by decide) mT_5_1 dX10_feed_103 ka0 rfl rfl (fun x61_ e61 => ?_)
              have r61 := hs60.rng ka0 rfl e61
              have f61 : x61_.toInt = (I60 a0 6).toInt := by rw [e61]
              have w61 : x61_ = x51_ := by rw [e61]; exact (Eq.trans (up2_kk eI60 kmt ka0 (by decide)) e51.symm)
              have wt61 : x61_.toInt = x51_.toInt := by rw [w61]
              refine r_iconst hC (v := (1)) dX10_feed_106 (by decide) (by decide) (fun x62_ e62 t62 => ?_)
              refine r_iadd hC dX10_feed_107 (fun x63_ e63 => ?_)
              try have t63 : x63_.toInt = x61_.toInt + x62_.toInt := by rw [e63]; exact ti_add (by omega) (by omega)
              refine r_puti hC 6 (ci := 10) rfl u10_in tyX10_ok nmX10 (by decide) mT_5_1 rfl rfl rfl dX10_feed_108 ka0 rfl rfl (fun I64 eI64 => ?_)
              have hs64 := hs60.put1 eI64 ka0 rfl (by omega) (by omega) rfl rfl (by decide)
              have hF64 := hF60.put eI64 ka0 rfl
              have bs64 := bs60.put eI64 ka0 kmt (by decide)
              obtain ⟨x65_, e65⟩ : ∃ z : Int32, z = x9_6 + Int32.ofInt (1) := ⟨_, rfl⟩
              refine r_iinc hC (j := 7) (v := x65_) (lv' := [(6, .int x65_), (7, .int x3), (0, .ref a0), (1, .int x1), (2, .int x2), (3, .int x3), (4, .int x4), (5, .int x5)]) dX10_feed_111 rfl (by rw [e65]) (by decide) rfl ?_
              try have t65 : x65_.toInt = x9_6.toInt + (1) := by rw [e65]; exact (ti_add (b := Int32.ofInt (1)) (by show _ ≤ _ + (1 : Int); omega) (by show _ + (1 : Int) ≤ _; omega))
              refine r_goto hC (tgt := 23) dX10_feed_114 (by decide) ?_
              have hv6 : I64 a0 6 = x63_ := (by rw [eI64]; exact up2_self _ _ _ _)
              have hv6t : (I64 a0 6).toInt = x63_.toInt := congrArg Int32.toInt hv6
              refine r_sub [2, 3, 4, 5, 6, 7, 0] rfl ?_
              exact ih9 ((20 - x65_.toInt).toNat) (by omega) x65_ I64 hs64 hF64 (by omega) (by omega) (by omega) (by first | (rw [show x65_.toInt.toNat = 0 by omega]; exact bs64) | (rw [show x65_.toInt.toNat = x9_6.toInt.toNat + 1 by omega]; exact bs64)) rfl
          · refine r_iload_n hC dX10_feed_47 2 rfl ?_
            refine r_goto hC (tgt := 76) dX10_feed_48 (by decide) ?_
            refine r_istore hC (lv' := [(7, .int x2), (0, .ref a0), (1, .int x1), (2, .int x2), (3, .int x3), (4, .int x4), (5, .int x5), (6, .int x9_6)]) dX10_feed_76 (by decide) rfl ?_
            refine r_aload_n hC dX10_feed_78 1 rfl ?_
            refine r_getr hC 5 (ci := 10) rfl u10_in (by decide) mT_5_0 dX10_feed_79 ka0 rfl rfl hmt ?_
            refine r_aload_n hC dX10_feed_82 1 rfl ?_
            refine r_geti hC 6 (ci := 10) rfl u10_in (by decide) mT_5_1 dX10_feed_83 ka0 rfl rfl (fun x66_ e66 => ?_)
            have r66 := hs9.rng ka0 rfl e66
            have f66 : x66_.toInt = (I9 a0 6).toInt := by rw [e66]
            refine r_iload hC dX10_feed_86 0 rfl ?_
            refine r_bipush hC (v := (24)) dX10_feed_88 (by decide) (by decide) (fun x67_ e67 t67 => ?_)
            refine r_bipush hC (v := (8)) dX10_feed_90 (by decide) (by decide) (fun x68_ e68 t68 => ?_)
            refine r_iload hC dX10_feed_92 7 rfl ?_
            refine r_iconst hC (v := (4)) dX10_feed_94 (by decide) (by decide) (fun x69_ e69 t69 => ?_)
            refine r_irem hC dX10_feed_95 (ne_0 (by omega)) (fun x70_ e70 => ?_)
            refine r_imul hC dX10_feed_96 (fun x71_ e71 => ?_)
            try have t71 : x71_.toInt = (8) * x70_.toInt := by rw [e71]; exact ti_mul (by omega) rfl (by omega) (by omega)
            refine r_isub hC dX10_feed_97 (fun x72_ e72 => ?_)
            try have t72 : x72_.toInt = x67_.toInt - x71_.toInt := by rw [e72]; exact ti_sub (by omega) (by omega)
            refine r_ishr hC dX10_feed_98 (fun x73_ e73 => ?_)
            refine r_i2b hC dX10_feed_99 (fun x74_ e74 => ?_)
            refine x_bastore hC kmt nmt (by decide) rfl rfl dX10_feed_100 (by omega) (by omega) (fun I75 eI75 => ?_)
            have hs75 := hs9.put0 eI75 kmt (rng_arr (by decide) _) rfl (xF_arr (by decide) _) (by decide)
            have hF75 := hF9.put eI75 kmt (inS_arr rfl _)
            have bs75 := v9_3.st eI75 (by have h9 := clampI (i := x66_) (by omega); omega) (by rw [fb_1 (by omega) (by omega)]; unfold bv; rw [e74, e73, sh_k (k := x9_6) (by omega) (by omega) e69 e68 e67 e70 e71 e72])
            refine r_aload_n hC dX10_feed_101 1 rfl ?_
            refine r_dup hC dX10_feed_102 rfl ?_
            refine r_geti hC 6 (ci := 10) rfl u10_in (by decide) mT_5_1 dX10_feed_103 ka0 rfl rfl (fun x76_ e76 => ?_)
            have r76 := hs75.rng ka0 rfl e76
            have f76 : x76_.toInt = (I75 a0 6).toInt := by rw [e76]
            have w76 : x76_ = x66_ := by rw [e76]; exact (Eq.trans (up2_kk eI75 kmt ka0 (by decide)) e66.symm)
            have wt76 : x76_.toInt = x66_.toInt := by rw [w76]
            refine r_iconst hC (v := (1)) dX10_feed_106 (by decide) (by decide) (fun x77_ e77 t77 => ?_)
            refine r_iadd hC dX10_feed_107 (fun x78_ e78 => ?_)
            try have t78 : x78_.toInt = x76_.toInt + x77_.toInt := by rw [e78]; exact ti_add (by omega) (by omega)
            refine r_puti hC 6 (ci := 10) rfl u10_in tyX10_ok nmX10 (by decide) mT_5_1 rfl rfl rfl dX10_feed_108 ka0 rfl rfl (fun I79 eI79 => ?_)
            have hs79 := hs75.put1 eI79 ka0 rfl (by omega) (by omega) rfl rfl (by decide)
            have hF79 := hF75.put eI79 ka0 rfl
            have bs79 := bs75.put eI79 ka0 kmt (by decide)
            obtain ⟨x80_, e80⟩ : ∃ z : Int32, z = x9_6 + Int32.ofInt (1) := ⟨_, rfl⟩
            refine r_iinc hC (j := 7) (v := x80_) (lv' := [(6, .int x80_), (7, .int x2), (0, .ref a0), (1, .int x1), (2, .int x2), (3, .int x3), (4, .int x4), (5, .int x5)]) dX10_feed_111 rfl (by rw [e80]) (by decide) rfl ?_
            try have t80 : x80_.toInt = x9_6.toInt + (1) := by rw [e80]; exact (ti_add (b := Int32.ofInt (1)) (by show _ ≤ _ + (1 : Int); omega) (by show _ + (1 : Int) ≤ _; omega))
            refine r_goto hC (tgt := 23) dX10_feed_114 (by decide) ?_
            have hv6 : I79 a0 6 = x78_ := (by rw [eI79]; exact up2_self _ _ _ _)
            have hv6t : (I79 a0 6).toInt = x78_.toInt := congrArg Int32.toInt hv6
            refine r_sub [2, 3, 4, 5, 6, 7, 0] rfl ?_
            exact ih9 ((20 - x80_.toInt).toNat) (by omega) x80_ I79 hs79 hF79 (by omega) (by omega) (by omega) (by first | (rw [show x80_.toInt.toNat = 0 by omega]; exact bs79) | (rw [show x80_.toInt.toNat = x9_6.toInt.toNat + 1 by omega]; exact bs79)) rfl
        · refine r_iload_n hC dX10_feed_36 1 rfl ?_
          refine r_goto hC (tgt := 76) dX10_feed_37 (by decide) ?_
          refine r_istore hC (lv' := [(7, .int x1), (0, .ref a0), (1, .int x1), (2, .int x2), (3, .int x3), (4, .int x4), (5, .int x5), (6, .int x9_6)]) dX10_feed_76 (by decide) rfl ?_
          refine r_aload_n hC dX10_feed_78 1 rfl ?_
          refine r_getr hC 5 (ci := 10) rfl u10_in (by decide) mT_5_0 dX10_feed_79 ka0 rfl rfl hmt ?_
          refine r_aload_n hC dX10_feed_82 1 rfl ?_
          refine r_geti hC 6 (ci := 10) rfl u10_in (by decide) mT_5_1 dX10_feed_83 ka0 rfl rfl (fun x81_ e81 => ?_)
          have r81 := hs9.rng ka0 rfl e81
          have f81 : x81_.toInt = (I9 a0 6).toInt := by rw [e81]
          refine r_iload hC dX10_feed_86 0 rfl ?_
          refine r_bipush hC (v := (24)) dX10_feed_88 (by decide) (by decide) (fun x82_ e82 t82 => ?_)
          refine r_bipush hC (v := (8)) dX10_feed_90 (by decide) (by decide) (fun x83_ e83 t83 => ?_)
          refine r_iload hC dX10_feed_92 7 rfl ?_
          refine r_iconst hC (v := (4)) dX10_feed_94 (by decide) (by decide) (fun x84_ e84 t84 => ?_)
          refine r_irem hC dX10_feed_95 (ne_0 (by omega)) (fun x85_ e85 => ?_)
          refine r_imul hC dX10_feed_96 (fun x86_ e86 => ?_)
          try have t86 : x86_.toInt = (8) * x85_.toInt := by rw [e86]; exact ti_mul (by omega) rfl (by omega) (by omega)
          refine r_isub hC dX10_feed_97 (fun x87_ e87 => ?_)
          try have t87 : x87_.toInt = x82_.toInt - x86_.toInt := by rw [e87]; exact ti_sub (by omega) (by omega)
          refine r_ishr hC dX10_feed_98 (fun x88_ e88 => ?_)
          refine r_i2b hC dX10_feed_99 (fun x89_ e89 => ?_)
          refine x_bastore hC kmt nmt (by decide) rfl rfl dX10_feed_100 (by omega) (by omega) (fun I90 eI90 => ?_)
          have hs90 := hs9.put0 eI90 kmt (rng_arr (by decide) _) rfl (xF_arr (by decide) _) (by decide)
          have hF90 := hF9.put eI90 kmt (inS_arr rfl _)
          have bs90 := v9_3.st eI90 (by have h9 := clampI (i := x81_) (by omega); omega) (by rw [fb_0 (by omega)]; unfold bv; rw [e89, e88, sh_k (k := x9_6) (by omega) (by omega) e84 e83 e82 e85 e86 e87])
          refine r_aload_n hC dX10_feed_101 1 rfl ?_
          refine r_dup hC dX10_feed_102 rfl ?_
          refine r_geti hC 6 (ci := 10) rfl u10_in (by decide) mT_5_1 dX10_feed_103 ka0 rfl rfl (fun x91_ e91 => ?_)
          have r91 := hs90.rng ka0 rfl e91
          have f91 : x91_.toInt = (I90 a0 6).toInt := by rw [e91]
          have w91 : x91_ = x81_ := by rw [e91]; exact (Eq.trans (up2_kk eI90 kmt ka0 (by decide)) e81.symm)
          have wt91 : x91_.toInt = x81_.toInt := by rw [w91]
          refine r_iconst hC (v := (1)) dX10_feed_106 (by decide) (by decide) (fun x92_ e92 t92 => ?_)
          refine r_iadd hC dX10_feed_107 (fun x93_ e93 => ?_)
          try have t93 : x93_.toInt = x91_.toInt + x92_.toInt := by rw [e93]; exact ti_add (by omega) (by omega)
          refine r_puti hC 6 (ci := 10) rfl u10_in tyX10_ok nmX10 (by decide) mT_5_1 rfl rfl rfl dX10_feed_108 ka0 rfl rfl (fun I94 eI94 => ?_)
          have hs94 := hs90.put1 eI94 ka0 rfl (by omega) (by omega) rfl rfl (by decide)
          have hF94 := hF90.put eI94 ka0 rfl
          have bs94 := bs90.put eI94 ka0 kmt (by decide)
          obtain ⟨x95_, e95⟩ : ∃ z : Int32, z = x9_6 + Int32.ofInt (1) := ⟨_, rfl⟩
          refine r_iinc hC (j := 7) (v := x95_) (lv' := [(6, .int x95_), (7, .int x1), (0, .ref a0), (1, .int x1), (2, .int x2), (3, .int x3), (4, .int x4), (5, .int x5)]) dX10_feed_111 rfl (by rw [e95]) (by decide) rfl ?_
          try have t95 : x95_.toInt = x9_6.toInt + (1) := by rw [e95]; exact (ti_add (b := Int32.ofInt (1)) (by show _ ≤ _ + (1 : Int); omega) (by show _ + (1 : Int) ≤ _; omega))
          refine r_goto hC (tgt := 23) dX10_feed_114 (by decide) ?_
          have hv6 : I94 a0 6 = x93_ := (by rw [eI94]; exact up2_self _ _ _ _)
          have hv6t : (I94 a0 6).toInt = x93_.toInt := congrArg Int32.toInt hv6
          refine r_sub [2, 3, 4, 5, 6, 7, 0] rfl ?_
          exact ih9 ((20 - x95_.toInt).toNat) (by omega) x95_ I94 hs94 hF94 (by omega) (by omega) (by omega) (by first | (rw [show x95_.toInt.toNat = 0 by omega]; exact bs94) | (rw [show x95_.toInt.toNat = x9_6.toInt.toNat + 1 by omega]; exact bs94)) rfl
    have hv6 : I2 a0 6 = x3_ := e3.symm
    have hv6t : (I2 a0 6).toInt = x3_.toInt := congrArg Int32.toInt hv6
    refine r_sub [1, 2, 3, 4, 5, 6, 0] rfl ?_
    exact LP9 _ x8_ I2 hs2 hF2 (by omega) (by omega) (by omega) (by first | (rw [show x8_.toInt.toNat = 0 by omega]; exact bs2) | (rw [show x8_.toInt.toNat = NOx_lp6.toInt.toNat + 1 by omega]; exact bs2)) rfl
  · refine r_iconst hC (v := (-1)) dX10_feed_18 (by decide) (by decide) (fun x96_ e96 t96 => ?_)
    have hv6 : I2 a0 6 = x3_ := e3.symm
    have hv6t : (I2 a0 6).toInt = x3_.toInt := congrArg Int32.toInt hv6
    exact r_iret hC hQ hlk hr rfl (by decide) (by decide) dX10_feed_19 ⟨_, _, rfl, rfl, ⟨hs2, hF2, (by first | exact Or.inl ⟨by omega, by omega, funext fun j => hF2.get kmt (by first | rfl | decide)⟩ | exact Or.inl ⟨by omega, by omega, funext fun j => up2_kk (by assumption) ka0 kmt (by decide)⟩ | exact Or.inr ⟨by omega, by omega, by have h9 := NOx_v23_3; rw [show NOx_l6.toInt.toNat = 20 by omega] at h9; exact h9⟩)⟩⟩
set_option maxHeartbeats 4000000 in
set_option maxRecDepth 100000 in
theorem f_X8_fault (g : GG) (l : Launch) (K len : Nat → Nat) (I : Nat → Nat → Int32) (J : Nat → Nat → Int64) (R : Nat → Nat → Option Nat) (hs : Sf K len I R) (a0 : Nat) (ka0 : K a0 = 9) (te : Nat) (hte : R a0 1 = some te) (kte : K te = 7) : Ct g l yX8_fault cX8_fault 1 (Option.some Jvm.ClassFile.FieldType.int) rmX8_fault [.ref a0] (K, len, I, J, R) (pI0 (K, len, I, J, R) (fun r => (r.toInt = (I te 5).toInt))) := by
  refine Ct_intro (by decide +kernel) (Nat.le_of_ble_eq_true rfl) (fun X hC hL hKK hNm hr hlk hQ => ?_)
  subst hL
  have hC : Cx g X cX8_fault "HillTap" 1 rmX8_fault := hC
  show P g X 1 0 [(0, .ref a0)] [] 0 0 (K, len, I, J, R)
  have hF : Fr K [] I I := Fr.refl
  refine r_aload_n hC dX8_fault_0 0 rfl ?_
  refine r_getr hC 1 (ci := 8) rfl u8_in (by decide) mT_2_79 dX8_fault_1 ka0 rfl rfl hte ?_
  refine r_geti hC 5 (ci := 6) rfl u6_in (by decide) mT_1_87 dX8_fault_4 kte rfl rfl (fun x1_ e1 => ?_)
  have f1 : x1_.toInt = (I te 5).toInt := by rw [e1]
  exact r_iret hC hQ hlk hr rfl (by decide) (by decide) dX8_fault_7 ⟨_, rfl, rfl, (by omega)⟩
set_option maxHeartbeats 4000000 in
set_option maxRecDepth 100000 in
theorem f_X8_where (g : GG) (l : Launch) (K len : Nat → Nat) (I : Nat → Nat → Int32) (J : Nat → Nat → Int64) (R : Nat → Nat → Option Nat) (hs : Sf K len I R) (a0 : Nat) (ka0 : K a0 = 9) (te : Nat) (hte : R a0 1 = some te) (kte : K te = 7) : Ct g l yX8_where cX8_where 1 (Option.some Jvm.ClassFile.FieldType.int) rmX8_where [.ref a0] (K, len, I, J, R) (pI0 (K, len, I, J, R) (fun r => (((I a0 12).toInt = 4 → r.toInt = (I te 6).toInt) ∧ ((I a0 12).toInt ≠ 4 → r.toInt = -1)))) := by
  refine Ct_intro (by decide +kernel) (Nat.le_of_ble_eq_true rfl) (fun X hC hL hKK hNm hr hlk hQ => ?_)
  subst hL
  have hC : Cx g X cX8_where "HillTap" 1 rmX8_where := hC
  show P g X 1 0 [(0, .ref a0)] [] 0 0 (K, len, I, J, R)
  have hF : Fr K [] I I := Fr.refl
  refine r_aload_n hC dX8_where_0 0 rfl ?_
  refine r_geti hC 12 (ci := 8) rfl u8_in (by decide) mT_2_90 dX8_where_1 ka0 rfl rfl (fun x1_ e1 => ?_)
  have f1 : x1_.toInt = (I a0 12).toInt := by rw [e1]
  refine r_iconst hC (v := (4)) dX8_where_4 (by decide) (by decide) (fun x2_ e2 t2 => ?_)
  refine r_icmp_ne hC (tgt := 18) dX8_where_5 (by decide) (fun c3 => ?_) (fun c3 => ?_)
  · refine r_iconst hC (v := (-1)) dX8_where_18 (by decide) (by decide) (fun x4_ e4 t4 => ?_)
    exact r_iret hC hQ hlk hr rfl (by decide) (by decide) dX8_where_19 ⟨_, rfl, rfl, (by omega)⟩
  · refine r_aload_n hC dX8_where_8 0 rfl ?_
    refine r_getr hC 1 (ci := 8) rfl u8_in (by decide) mT_2_79 dX8_where_9 ka0 rfl rfl hte ?_
    refine r_geti hC 6 (ci := 6) rfl u6_in (by decide) mT_1_89 dX8_where_12 kte rfl rfl (fun x5_ e5 => ?_)
    have f5 : x5_.toInt = (I te 6).toInt := by rw [e5]
    refine r_goto hC (tgt := 19) dX8_where_15 (by decide) ?_
    exact r_iret hC hQ hlk hr rfl (by decide) (by decide) dX8_where_19 ⟨_, rfl, rfl, (by omega)⟩
set_option maxHeartbeats 4000000 in
set_option maxRecDepth 100000 in
theorem f_X10_fault (g : GG) (l : Launch) (K len : Nat → Nat) (I : Nat → Nat → Int32) (J : Nat → Nat → Int64) (R : Nat → Nat → Option Nat) (hs : Sf K len I R) (a0 : Nat) (ka0 : K a0 = 11) : Ct g l yX10_fault cX10_fault 1 (Option.some Jvm.ClassFile.FieldType.int) rmX10_fault [.ref a0] (K, len, I, J, R) (pI1 (K, len, I, J, R) (fun r I' => Sf K len I' R ∧ Fr K [(11, 0)] I I' ∧ (r.toInt = (I a0 12).toInt))) := by
  refine Ct_intro (by decide +kernel) (Nat.le_of_ble_eq_true rfl) (fun X hC hL hKK hNm hr hlk hQ => ?_)
  subst hL
  have hC : Cx g X cX10_fault "HillTapModel" 1 rmX10_fault := hC
  show P g X 1 0 [(0, .ref a0)] [] 0 0 (K, len, I, J, R)
  have hF : Fr K [(11, 0)] I I := Fr.refl
  obtain ⟨F0, eF0⟩ : ∃ z : Int32, z = I a0 12 := ⟨_, rfl⟩
  have fF0 : F0.toInt = (I a0 12).toInt := by rw [eF0]
  refine r_aload_n hC dX10_fault_0 0 rfl ?_
  refine r_iconst hC (v := (0)) dX10_fault_1 (by decide) (by decide) (fun x1_ e1 t1 => ?_)
  refine r_puti hC 0 (ci := 10) rfl u10_in tyX10_ok nmX10 (by decide) mT_4_235 rfl rfl rfl dX10_fault_2 ka0 rfl rfl (fun I2 eI2 => ?_)
  have hs2 := hs.put0 eI2 ka0 rfl rfl rfl (by decide)
  have hF2 := hF.put eI2 ka0 rfl
  refine r_aload_n hC dX10_fault_5 0 rfl ?_
  refine r_geti hC 12 (ci := 10) rfl u10_in (by decide) mT_5_7 dX10_fault_6 ka0 rfl rfl (fun x3_ e3 => ?_)
  have f3 : x3_.toInt = (I2 a0 12).toInt := by rw [e3]
  have w3 : x3_ = F0 := by rw [e3]; exact (Eq.trans (up2_at (Or.inr (by decide)) eI2) eF0.symm)
  have wt3 : x3_.toInt = F0.toInt := by rw [w3]
  exact r_iret hC hQ hlk hr rfl (by decide) (by decide) dX10_fault_9 ⟨_, _, rfl, rfl, ⟨hs2, hF2, (by omega)⟩⟩
set_option maxHeartbeats 4000000 in
set_option maxRecDepth 100000 in
theorem f_X10_where (g : GG) (l : Launch) (K len : Nat → Nat) (I : Nat → Nat → Int32) (J : Nat → Nat → Int64) (R : Nat → Nat → Option Nat) (hs : Sf K len I R) (a0 : Nat) (ka0 : K a0 = 11) : Ct g l yX10_where cX10_where 1 (Option.some Jvm.ClassFile.FieldType.int) rmX10_where [.ref a0] (K, len, I, J, R) (pI1 (K, len, I, J, R) (fun r I' => Sf K len I' R ∧ Fr K [(11, 0)] I I' ∧ (r.toInt = (I a0 2).toInt))) := by
  refine Ct_intro (by decide +kernel) (Nat.le_of_ble_eq_true rfl) (fun X hC hL hKK hNm hr hlk hQ => ?_)
  subst hL
  have hC : Cx g X cX10_where "HillTapModel" 1 rmX10_where := hC
  show P g X 1 0 [(0, .ref a0)] [] 0 0 (K, len, I, J, R)
  have hF : Fr K [(11, 0)] I I := Fr.refl
  obtain ⟨W0, eW0⟩ : ∃ z : Int32, z = I a0 2 := ⟨_, rfl⟩
  have fW0 : W0.toInt = (I a0 2).toInt := by rw [eW0]
  refine r_aload_n hC dX10_where_0 0 rfl ?_
  refine r_iconst hC (v := (0)) dX10_where_1 (by decide) (by decide) (fun x1_ e1 t1 => ?_)
  refine r_puti hC 0 (ci := 10) rfl u10_in tyX10_ok nmX10 (by decide) mT_4_235 rfl rfl rfl dX10_where_2 ka0 rfl rfl (fun I2 eI2 => ?_)
  have hs2 := hs.put0 eI2 ka0 rfl rfl rfl (by decide)
  have hF2 := hF.put eI2 ka0 rfl
  refine r_aload_n hC dX10_where_5 0 rfl ?_
  refine r_geti hC 2 (ci := 10) rfl u10_in (by decide) mT_4_237 dX10_where_6 ka0 rfl rfl (fun x3_ e3 => ?_)
  have f3 : x3_.toInt = (I2 a0 2).toInt := by rw [e3]
  have w3 : x3_ = W0 := by rw [e3]; exact (Eq.trans (up2_at (Or.inr (by decide)) eI2) eW0.symm)
  have wt3 : x3_.toInt = W0.toInt := by rw [w3]
  exact r_iret hC hQ hlk hr rfl (by decide) (by decide) dX10_where_9 ⟨_, _, rfl, rfl, ⟨hs2, hF2, (by omega)⟩⟩

