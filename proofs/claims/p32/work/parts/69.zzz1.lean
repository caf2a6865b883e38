def Hi (s : Int) (L : Nat → Int) : Nat → Int
  | 0 => s
  | d + 1 => max (Hi s L d) (L d)
def Ps (f : Nat → Int) : Nat → Int
  | 0 => 0
  | n + 1 => Ps f n + f n
def Ad (D : DD) (s : Nat) (L : Nat → Int) (wet : Int) (d : Nat) : Int := if D 7 s = 1 then D 8 s * max 0 (L d - Hi (D 0 1) L d) / 100 else if D 7 s = 2 then D 8 s * ((Ps L (d + 1) - Ps L (d + 1 - (D 9 s).toNat)) / min (D 9 s) (d + 1)) / 100 else if D 7 s = 5 then (if wet ≠ 0 then D 8 s * (Ps (D 5) (d + 1) - Ps (D 5) (d + 1 - 5)) else 0) else D 8 s * L d / 100
section ADD
variable {f L : Nat → Int} {d n w : Nat}
theorem Ps_mono (hf : ∀ j, 0 ≤ f j) : ∀ {n m : Nat}, n ≤ m → Ps f n ≤ Ps f m
  | n, 0, h => by have : n = 0 := by omega
                  rw [this]; exact Int.le_refl _
  | n, m + 1, h => by
    by_cases hn : n = m + 1
    · rw [hn]; exact Int.le_refl _
    · have h1 := Ps_mono hf (n := n) (m := m) (by omega)
      have h2 := hf m
      simp only [Ps]; omega
theorem Ps_up {c : Int} (hf : ∀ j, f j ≤ c) : ∀ (n k : Nat), Ps f (n + k) - Ps f n ≤ k * c
  | n, 0 => by simp
  | n, k + 1 => by
    have h1 := Ps_up hf n k
    have h2 := hf (n + k)
    have e : Ps f (n + (k + 1)) = Ps f (n + k) + f (n + k) := rfl
    rw [e]
    have e2 : ((k + 1 : Nat) : Int) * c = k * c + c := by rw [Int.natCast_succ, Int.add_mul, Int.one_mul]
    rw [e2]; omega
/-- a window slides on -/
theorem Ps_w1 (h : w ≤ d) : Ps f (d + 1) - Ps f (d + 1 - w) = Ps f d - Ps f (d - w) + f d - f (d - w) := by
  have e : d + 1 - w = (d - w) + 1 := by omega
  rw [e]; simp only [Ps]; omega
theorem Ps_w0 (h : d < w) : Ps f (d + 1) - Ps f (d + 1 - w) = Ps f d - Ps f (d - w) + f d := by
  have e : d + 1 - w = 0 := by omega
  have e2 : d - w = 0 := by omega
  rw [e, e2]; simp only [Ps]; omega
theorem Hi_b {s c : Int} (hs : 0 ≤ s ∧ s ≤ c) (hL : ∀ j, 0 ≤ L j ∧ L j ≤ c) : ∀ d, 0 ≤ Hi s L d ∧ Hi s L d ≤ c
  | 0 => hs
  | d + 1 => by simp only [Hi]; have h1 := Hi_b hs hL d; have h2 := hL d; omega
theorem mul_b {a b A B C : Int} (hC : A * B = C) (a0 : 0 ≤ a) (a1 : a ≤ A) (b0 : 0 ≤ b) (b1 : b ≤ B) : 0 ≤ a * b ∧ a * b ≤ C := by
  refine ⟨Int.mul_nonneg a0 b0, ?_⟩
  rw [← hC]; exact Int.mul_le_mul a1 b1 b0 (by omega)
theorem ti_div {x y : Int32} (h0 : 0 ≤ x.toInt) (h1 : 0 < y.toInt) : (x / y).toInt = x.toInt / y.toInt := by
  have hx := ti_rng x
  have hd : 0 ≤ x.toInt / y.toInt := Int.ediv_nonneg h0 (by omega)
  have hl : x.toInt / y.toInt ≤ x.toInt := Int.ediv_le_self _ h0
  rw [Int32.toInt_div, Int.tdiv_eq_ediv_of_nonneg h0]
  exact Int.bmod_eq_of_le (by omega) (by omega)
theorem Ps_b {c : Int} (hf : ∀ j, j < 60 → 0 ≤ f j ∧ f j ≤ c) : ∀ {n m : Nat}, n ≤ m → m ≤ 60 → 0 ≤ Ps f m - Ps f n ∧ Ps f m - Ps f n ≤ ((m - n : Nat) : Int) * c
  | n, 0, h, _ => by have : n = 0 := by omega
                     rw [this]; simp
  | n, m + 1, h, h6 => by
    by_cases hn : n = m + 1
    · rw [hn]; simp
    · obtain ⟨h1, h2⟩ := Ps_b hf (n := n) (m := m) (by omega) (by omega)
      have h3 := hf m (by omega)
      have e : ((m + 1 - n : Nat) : Int) * c = ((m - n : Nat) : Int) * c + c := by rw [show m + 1 - n = (m - n) + 1 by omega, Int.natCast_succ, Int.add_mul, Int.one_mul]
      rw [e]; simp only [Ps]; omega
theorem Ad_1 {D : DD} {s : Nat} {wet : Int} (h : D 7 s = 1) : Ad D s L wet d = D 8 s * max 0 (L d - Hi (D 0 1) L d) / 100 := by unfold Ad; rw [if_pos h]
theorem Ad_2 {D : DD} {s : Nat} {wet : Int} (h : D 7 s = 2) : Ad D s L wet d = D 8 s * ((Ps L (d + 1) - Ps L (d + 1 - (D 9 s).toNat)) / min (D 9 s) (d + 1)) / 100 := by unfold Ad; rw [if_neg (by omega), if_pos h]
theorem Ad_5 {D : DD} {s : Nat} {wet : Int} (h : D 7 s = 5) (hw : wet ≠ 0) : Ad D s L wet d = D 8 s * (Ps (D 5) (d + 1) - Ps (D 5) (d + 1 - 5)) := by unfold Ad; rw [if_neg (by omega), if_neg (by omega), if_pos h, if_pos hw]
theorem Ad_5n {D : DD} {s : Nat} {wet : Int} (h : D 7 s = 5) (hw : wet = 0) : Ad D s L wet d = 0 := by unfold Ad; rw [if_neg (by omega), if_neg (by omega), if_pos h, if_neg (by omega)]
theorem Ad_d {D : DD} {s : Nat} {wet : Int} (h : D 7 s ≠ 1 ∧ D 7 s ≠ 2 ∧ D 7 s ≠ 5) : Ad D s L wet d = D 8 s * L d / 100 := by unfold Ad; rw [if_neg h.1, if_neg h.2.1, if_neg h.2.2]
theorem DJ.k7 {D : DD} (hJ : DJ D) (s : Nat) : 0 ≤ D 7 s ∧ D 7 s ≤ 5 := hJ.2.2.2.1 7 s (by decide) (by decide) (by decide)
theorem DJ.k8 {D : DD} (hJ : DJ D) (s : Nat) : 0 ≤ D 8 s ∧ D 8 s ≤ 99 := hJ.2.2.2.1 8 s (by decide) (by decide) (by decide)
theorem DJ.k9 {D : DD} (hJ : DJ D) (s : Nat) : 0 ≤ D 9 s ∧ D 9 s ≤ 999 := hJ.2.2.2.1 9 s (by decide) (by decide) (by decide)
theorem DJ.rn {D : DD} (hJ : DJ D) (h6 : D 0 6 ≤ 6) (j : Nat) : 0 ≤ D 5 j ∧ D 5 j ≤ 594 := by have := hJ.1 j; omega
end ADD
set_option maxHeartbeats 4000000 in
set_option maxRecDepth 100000 in
theorem f_X0_fillByRise (g : GG) (l : Launch) (K len : Nat → Nat) (I : Nat → Nat → Int32) (J : Nat → Nat → Int64) (R : Nat → Nat → Option Nat) (hs : Sf K len I R) (a0 : Nat) (ka0 : K a0 = 1) (x1 : Int32) (x2 : Int32) (a3 : Nat) (ka3 : K a3 = 41) (na3 : len a3 = 60) (dr : Nat) (hdr : R a0 4 = some dr) (kdr : K dr = 54) (ldr : len dr = 60) (L : Nat → Int) (hL : ∀ j : Nat, j < 60 → (I a3 j).toInt = L j ∧ 0 ≤ L j ∧ L j ≤ 999) (p0 : 0 ≤ x1.toInt ∧ x1.toInt ≤ 99) (p1 : 0 ≤ x2.toInt ∧ x2.toInt ≤ 999) : Ct g l yX0_fillByRise cX0_fillByRise 6 (Option.none : Option Jvm.ClassFile.FieldType) rmX0_fillByRise [.ref a0, .int x1, .int x2, .ref a3] (K, len, I, J, R) (pV1 (K, len, I, J, R) (fun I' => Sf K len I' R ∧ Fr K [(54, 999)] I I' ∧ (∀ j : Nat, j < 60 → (I' dr j).toInt = x1.toInt * max 0 (L j - Hi x2.toInt L j) / 100) ∧ (∀ b k, b ≠ dr → I' b k = I b k))) := by
  refine Ct_intro (by decide +kernel) (Nat.le_of_ble_eq_true rfl) (fun X hC hL hKK hNm hr hlk hQ => ?_)
  subst hL
  have hC : Cx g X cX0_fillByRise "HillTap$Course" 6 rmX0_fillByRise := hC
  show P g X 6 0 [(0, .ref a0), (1, .int x1), (2, .int x2), (3, .ref a3)] [] 0 0 (K, len, I, J, R)
  have hF : Fr K [(54, 999)] I I := Fr.refl
  have b_x1 := ti_rng x1
  have b_x2 := ti_rng x2
  refine r_iload_n hC dX0_fillByRise_0 2 rfl ?_
  refine r_istore hC (lv' := [(4, .int x2), (0, .ref a0), (1, .int x1), (2, .int x2), (3, .ref a3)]) dX0_fillByRise_1 (by decide) rfl ?_
  refine r_iconst hC (v := (0)) dX0_fillByRise_3 (by decide) (by decide) (fun x1_ e1 t1 => ?_)
  refine r_istore hC (lv' := [(5, .int x1_), (4, .int x2), (0, .ref a0), (1, .int x1), (2, .int x2), (3, .ref a3)]) dX0_fillByRise_4 (by decide) rfl ?_
  have LP2 : ∀ (mu : Nat) (x2_5 : Int32) (x2_4 : Int32) (I2 : Nat → Nat → Int32) (hs2 : Sf K len I2 R) (hF2 : Fr K [(54, 999)] I I2) (v2_0 : 0 ≤ x2_5.toInt) (v2_1 : x2_5.toInt ≤ 60) (v2_2 : x2_4.toInt = Hi x2.toInt L x2_5.toInt.toNat) (v2_3 : ∀ j : Nat, 0 ≤ j → (j : Int) < x2_5.toInt → (I2 dr j).toInt = (fun j => x1.toInt * max 0 (L j - Hi x2.toInt L j) / 100) j) (v2_4 : 0 ≤ x2_4.toInt ∧ x2_4.toInt ≤ 999) (v2_5 : ∀ b k, b ≠ dr → I2 b k = I b k), (60 - x2_5.toInt).toNat = mu → P g X 6 6 [(0, .ref a0), (1, .int x1), (2, .int x2), (3, .ref a3), (4, .int x2_4), (5, .int x2_5)] [] 0 0 (K, len, I2, J, R) := by
    intro mu; induction mu using Nat.strongRecOn with | ind mu ih => ?_
    intro x2_5 x2_4 I2 hs2 hF2 v2_0 v2_1 v2_2 v2_3 v2_4 v2_5 hmu
    have ih2 := ih
    clear ih
    have hmu2 := hmu
    clear hmu
    refine r_iload hC dX0_fillByRise_6 5 rfl ?_
    refine r_bipush hC (v := (60)) dX0_fillByRise_8 (by decide) (by decide) (fun x3_ e3 t3 => ?_)
    refine r_icmp_ge hC (tgt := 53) dX0_fillByRise_10 (by decide) (fun c4 => ?_) (fun c4 => ?_)
    · exact r_vret hC hQ hlk hr (by decide) (by decide) dX0_fillByRise_53 ⟨_, rfl, rfl, ⟨hs2, hF2, (by exact fun j hj => v2_3 j (Nat.zero_le j) (by omega)), (by exact v2_5)⟩⟩
    · refine r_aload_n hC dX0_fillByRise_13 0 rfl ?_
      refine r_getr hC 4 (ci := 0) rfl u0_in (by decide) mT_2_34 dX0_fillByRise_14 ka0 rfl rfl hdr ?_
      refine r_iload hC dX0_fillByRise_17 5 rfl ?_
      refine r_iload_n hC dX0_fillByRise_19 1 rfl ?_
      refine r_iconst hC (v := (0)) dX0_fillByRise_20 (by decide) (by decide) (fun x5_ e5 t5 => ?_)
      refine r_aload_n hC dX0_fillByRise_21 3 rfl ?_
      refine r_iload hC dX0_fillByRise_22 5 rfl ?_
      refine x_iaload hC ka3 na3 (by decide) rfl rfl dX0_fillByRise_24 (by omega) (by omega) (fun x6_ e6 => ?_)
      have ql6 := hL x2_5.toInt.toNat (by omega)
      have qv6 : x6_.toInt = L x2_5.toInt.toNat := by rw [e6, hF2.get ka3 rfl, clx (i := x2_5) rfl (by omega)]; exact ql6.1
      refine r_iload hC dX0_fillByRise_25 4 rfl ?_
      refine r_isub hC dX0_fillByRise_27 (fun x7_ e7 => ?_)
      try have t7 : x7_.toInt = x6_.toInt - x2_4.toInt := by rw [e7]; exact ti_sub (by omega) (by omega)
      refine r_mmax hC mT_3_176 mT_3_11 mT_1_12 mT_3_12 (by decide) (Nat.le_of_ble_eq_true rfl) (Nat.zero_le _) (Nat.zero_le _) dX0_fillByRise_28 (fun x8_ e8 t8a t8b t8c => ?_)
      refine r_imul hC dX0_fillByRise_31 (fun x9_ e9 => ?_)
      have mb9 := mul_b (a := x1.toInt) (b := x8_.toInt) (A := 99) (B := 999) (C := 98901) (by decide) (by omega) (by omega) (by omega) (by omega)
      have tm9 : x9_.toInt = x1.toInt * x8_.toInt := by rw [e9]; exact ti_mul rfl rfl (by omega) (by omega)
      refine r_bipush hC (v := (100)) dX0_fillByRise_32 (by decide) (by decide) (fun x10_ e10 t10 => ?_)
      refine r_idiv hC dX0_fillByRise_34 (ne_0 (by omega)) (fun x11_ e11 => ?_)
      have td11 : x11_.toInt = x9_.toInt / 100 := by rw [e11, ti_div (by omega) (by omega), show x10_.toInt = 100 by omega]
      have tf : x11_.toInt = x1.toInt * max 0 (L x2_5.toInt.toNat - Hi x2.toInt L x2_5.toInt.toNat) / 100 := by rw [show max 0 (L x2_5.toInt.toNat - Hi x2.toInt L x2_5.toInt.toNat) = x8_.toInt by omega]; omega
      refine x_iastore hC kdr ldr (by decide) rfl rfl dX0_fillByRise_35 (by omega) (by omega) (fun I12 eI12 => ?_)
      have hs12 := hs2.put0 eI12 kdr (rng_arr (by decide) _) rfl (xF_arr (by decide) _) (by decide)
      have hF12 := hF2.put eI12 kdr (inS_arr rfl _)
      refine r_iload hC dX0_fillByRise_36 4 rfl ?_
      refine r_aload_n hC dX0_fillByRise_38 3 rfl ?_
      refine r_iload hC dX0_fillByRise_39 5 rfl ?_
      refine x_iaload hC ka3 na3 (by decide) rfl rfl dX0_fillByRise_41 (by omega) (by omega) (fun x13_ e13 => ?_)
      have ql13 := hL x2_5.toInt.toNat (by omega)
      have qv13 : x13_.toInt = L x2_5.toInt.toNat := by rw [e13, hF12.get ka3 rfl, clx (i := x2_5) rfl (by omega)]; exact ql13.1
      refine r_mmax hC mT_3_176 mT_3_11 mT_1_12 mT_3_12 (by decide) (Nat.le_of_ble_eq_true rfl) (Nat.zero_le _) (Nat.zero_le _) dX0_fillByRise_42 (fun x14_ e14 t14a t14b t14c => ?_)
      refine r_istore hC (lv' := [(4, .int x14_), (0, .ref a0), (1, .int x1), (2, .int x2), (3, .ref a3), (5, .int x2_5)]) dX0_fillByRise_45 (by decide) rfl ?_
      obtain ⟨x15_, e15⟩ : ∃ z : Int32, z = x2_5 + Int32.ofInt (1) := ⟨_, rfl⟩
      refine r_iinc hC (j := 5) (v := x15_) (lv' := [(5, .int x15_), (4, .int x14_), (0, .ref a0), (1, .int x1), (2, .int x2), (3, .ref a3)]) dX0_fillByRise_47 rfl (by rw [e15]) (by decide) rfl ?_
      try have t15 : x15_.toInt = x2_5.toInt + (1) := by rw [e15]; exact (ti_add (b := Int32.ofInt (1)) (by show _ ≤ _ + (1 : Int); omega) (by show _ + (1 : Int) ≤ _; omega))
      refine r_goto hC (tgt := 6) dX0_fillByRise_50 (by decide) ?_
      refine r_sub [2, 3, 4, 5, 1, 0] rfl ?_
      exact ih2 ((60 - x15_.toInt).toNat) (by omega) x15_ x14_ I12 hs12 hF12 (by omega) (by omega) (by first | (rw [show x15_.toInt.toNat = 0 by omega]; rfl) | (rw [show x15_.toInt.toNat = x2_5.toInt.toNat + 1 by omega]; show _ = max (Hi x2.toInt L _) (L _); omega)) (by first | exact all_0 (P := fun j => (I dr j).toInt = (fun j => x1.toInt * max 0 (L j - Hi x2.toInt L j) / 100) j) (q := 0) (by omega) | exact fillf_s (f := (fun j => x1.toInt * max 0 (L j - Hi x2.toInt L j) / 100)) (k := x2_5.toNatClampNeg) v2_3 eI12 (by have h9 := clampI (i := x2_5) (by omega); omega) (by rw [clx (i := x2_5) rfl (by omega)]; exact tf) (by omega)) (by omega) (by first | exact fun b k hb => rfl | exact fill_o v2_5 eI12) rfl
  refine r_sub [2, 3, 4, 5, 1, 0] rfl ?_
  exact LP2 _ x1_ x2 I hs hF (by omega) (by omega) (by first | (rw [show x1_.toInt.toNat = 0 by omega]; rfl) | (rw [show x1_.toInt.toNat = x2_5.toInt.toNat + 1 by omega]; show _ = max (Hi x2.toInt L _) (L _); omega)) (by first | exact all_0 (P := fun j => (I dr j).toInt = (fun j => x1.toInt * max 0 (L j - Hi x2.toInt L j) / 100) j) (q := 0) (by omega) | exact fillf_s (f := (fun j => x1.toInt * max 0 (L j - Hi x2.toInt L j) / 100)) (k := x2_5.toNatClampNeg) v2_3 eI (by have h9 := clampI (i := x2_5) (by omega); omega) (by rw [clx (i := x2_5) rfl (by omega)]; exact tf) (by omega)) (by omega) (by first | exact fun b k hb => rfl | exact fill_o v2_5 eI) rfl
set_option maxHeartbeats 4000000 in
set_option maxRecDepth 100000 in
theorem f_X0_fillByMean (g : GG) (l : Launch) (K len : Nat → Nat) (I : Nat → Nat → Int32) (J : Nat → Nat → Int64) (R : Nat → Nat → Option Nat) (hs : Sf K len I R) (a0 : Nat) (ka0 : K a0 = 1) (x1 : Int32) (x2 : Int32) (a3 : Nat) (ka3 : K a3 = 41) (na3 : len a3 = 60) (dr : Nat) (hdr : R a0 4 = some dr) (kdr : K dr = 54) (ldr : len dr = 60) (L : Nat → Int) (hL : ∀ j : Nat, j < 60 → (I a3 j).toInt = L j ∧ 0 ≤ L j ∧ L j ≤ 999) (p0 : 0 ≤ x1.toInt ∧ x1.toInt ≤ 99) (p1 : 1 ≤ x2.toInt ∧ x2.toInt ≤ 20) : Ct g l yX0_fillByMean cX0_fillByMean 7 (Option.none : Option Jvm.ClassFile.FieldType) rmX0_fillByMean [.ref a0, .int x1, .int x2, .ref a3] (K, len, I, J, R) (pV1 (K, len, I, J, R) (fun I' => Sf K len I' R ∧ Fr K [(54, 999)] I I' ∧ (∀ j : Nat, j < 60 → (I' dr j).toInt = x1.toInt * ((Ps L (j + 1) - Ps L (j + 1 - x2.toInt.toNat)) / min x2.toInt ((j : Int) + 1)) / 100) ∧ (∀ b k, b ≠ dr → I' b k = I b k))) := by
  refine Ct_intro (by decide +kernel) (Nat.le_of_ble_eq_true rfl) (fun X hC hL hKK hNm hr hlk hQ => ?_)
  subst hL
  have hC : Cx g X cX0_fillByMean "HillTap$Course" 7 rmX0_fillByMean := hC
  show P g X 7 0 [(0, .ref a0), (1, .int x1), (2, .int x2), (3, .ref a3)] [] 0 0 (K, len, I, J, R)
  have hF : Fr K [(54, 999)] I I := Fr.refl
  have hL0 : ∀ j : Nat, j < 60 → 0 ≤ L j ∧ L j ≤ 999 := fun j hj => (hL j hj).2
  have b_x1 := ti_rng x1
  have b_x2 := ti_rng x2
  refine r_iconst hC (v := (0)) dX0_fillByMean_0 (by decide) (by decide) (fun x1_ e1 t1 => ?_)
  refine r_istore hC (lv' := [(4, .int x1_), (0, .ref a0), (1, .int x1), (2, .int x2), (3, .ref a3)]) dX0_fillByMean_1 (by decide) rfl ?_
  refine r_iconst hC (v := (0)) dX0_fillByMean_3 (by decide) (by decide) (fun x2_ e2 t2 => ?_)
  refine r_istore hC (lv' := [(5, .int x2_), (4, .int x1_), (0, .ref a0), (1, .int x1), (2, .int x2), (3, .ref a3)]) dX0_fillByMean_4 (by decide) rfl ?_
  have LP3 : ∀ (mu : Nat) (x3_5 : Int32) (x3_4 : Int32) (I3 : Nat → Nat → Int32) (hs3 : Sf K len I3 R) (hF3 : Fr K [(54, 999)] I I3) (v3_0 : 0 ≤ x3_5.toInt) (v3_1 : x3_5.toInt ≤ 60) (v3_2 : x3_4.toInt = Ps L x3_5.toInt.toNat - Ps L (x3_5.toInt.toNat - x2.toInt.toNat)) (v3_3 : ∀ j : Nat, 0 ≤ j → (j : Int) < x3_5.toInt → (I3 dr j).toInt = (fun j => x1.toInt * ((Ps L (j + 1) - Ps L (j + 1 - x2.toInt.toNat)) / min x2.toInt ((j : Int) + 1)) / 100) j) (v3_4 : 0 ≤ x3_4.toInt ∧ x3_4.toInt ≤ 59940) (v3_5 : ∀ b k, b ≠ dr → I3 b k = I b k), (60 - x3_5.toInt).toNat = mu → P g X 7 6 [(0, .ref a0), (1, .int x1), (2, .int x2), (3, .ref a3), (4, .int x3_4), (5, .int x3_5)] [] 0 0 (K, len, I3, J, R) := by
    intro mu; induction mu using Nat.strongRecOn with | ind mu ih => ?_
    intro x3_5 x3_4 I3 hs3 hF3 v3_0 v3_1 v3_2 v3_3 v3_4 v3_5 hmu
    have ih3 := ih
    clear ih
    have hmu3 := hmu
    clear hmu
    refine r_iload hC dX0_fillByMean_6 5 rfl ?_
    refine r_bipush hC (v := (60)) dX0_fillByMean_8 (by decide) (by decide) (fun x4_ e4 t4 => ?_)
    refine r_icmp_ge hC (tgt := 80) dX0_fillByMean_10 (by decide) (fun c5 => ?_) (fun c5 => ?_)
    · exact r_vret hC hQ hlk hr (by decide) (by decide) dX0_fillByMean_80 ⟨_, rfl, rfl, ⟨hs3, hF3, (by exact fun j hj => v3_3 j (Nat.zero_le j) (by omega)), (by exact v3_5)⟩⟩
    · refine r_iload hC dX0_fillByMean_13 4 rfl ?_
      refine r_aload_n hC dX0_fillByMean_15 3 rfl ?_
      refine r_iload hC dX0_fillByMean_16 5 rfl ?_
      refine x_iaload hC ka3 na3 (by decide) rfl rfl dX0_fillByMean_18 (by omega) (by omega) (fun x6_ e6 => ?_)
      have ql6 := hL x3_5.toInt.toNat (by omega)
      have qv6 : x6_.toInt = L x3_5.toInt.toNat := by rw [e6, hF3.get ka3 rfl, clx (i := x3_5) rfl (by omega)]; exact ql6.1
      refine r_iadd hC dX0_fillByMean_19 (fun x7_ e7 => ?_)
      try have t7 : x7_.toInt = x3_4.toInt + x6_.toInt := by rw [e7]; exact ti_add (by omega) (by omega)
      refine r_istore hC (lv' := [(4, .int x7_), (0, .ref a0), (1, .int x1), (2, .int x2), (3, .ref a3), (5, .int x3_5)]) dX0_fillByMean_20 (by decide) rfl ?_
      refine r_iload_n hC dX0_fillByMean_22 3 rfl ?_
      refine r_if_le hC (tgt := 43) dX0_fillByMean_23 (by decide) (fun c8 => ?_) (fun c8 => ?_)
      · refine r_iconst hC (v := (1)) dX0_fillByMean_43 (by decide) (by decide) (fun x9_ e9 t9 => ?_)
        refine r_iload_n hC dX0_fillByMean_44 3 rfl ?_
        refine r_iload hC dX0_fillByMean_45 5 rfl ?_
        refine r_iconst hC (v := (1)) dX0_fillByMean_47 (by decide) (by decide) (fun x10_ e10 t10 => ?_)
        refine r_iadd hC dX0_fillByMean_48 (fun x11_ e11 => ?_)
        try have t11 : x11_.toInt = x3_5.toInt + x10_.toInt := by rw [e11]; exact ti_add (by omega) (by omega)
        refine r_mmin hC mT_3_181 mT_2_154 mT_1_12 mT_2_155 (by decide) (Nat.le_of_ble_eq_true rfl) (Nat.zero_le _) (Nat.zero_le _) dX0_fillByMean_49 (fun x12_ e12 t12a t12b t12c => ?_)
        refine r_mmax hC mT_3_176 mT_3_11 mT_1_12 mT_3_12 (by decide) (Nat.le_of_ble_eq_true rfl) (Nat.zero_le _) (Nat.zero_le _) dX0_fillByMean_52 (fun x13_ e13 t13a t13b t13c => ?_)
        refine r_istore hC (lv' := [(6, .int x13_), (4, .int x7_), (0, .ref a0), (1, .int x1), (2, .int x2), (3, .ref a3), (5, .int x3_5)]) dX0_fillByMean_55 (by decide) rfl ?_
        refine r_aload_n hC dX0_fillByMean_57 2 rfl ?_
        refine r_getr hC 4 (ci := 0) rfl u0_in (by decide) mT_2_34 dX0_fillByMean_58 ka0 rfl rfl hdr ?_
        refine r_iload hC dX0_fillByMean_61 6 rfl ?_
        refine r_iload_n hC dX0_fillByMean_63 3 rfl ?_
        refine r_iload hC dX0_fillByMean_64 1 rfl ?_
        refine r_iload hC dX0_fillByMean_66 0 rfl ?_
        have sw : x7_.toInt = Ps L (x3_5.toInt.toNat + 1) - Ps L (x3_5.toInt.toNat + 1 - x2.toInt.toNat) := by first | (rw [Ps_w1 (by omega), ← v3_2, show x3_5.toInt.toNat - x2.toInt.toNat = x3_5.toInt.toNat by omega]; omega) | (rw [Ps_w0 (by omega), ← v3_2]; omega)
        have swb := Ps_b hL0 (show x3_5.toInt.toNat + 1 - x2.toInt.toNat ≤ x3_5.toInt.toNat + 1 by omega) (show x3_5.toInt.toNat + 1 ≤ 60 by omega)
        refine r_idiv hC dX0_fillByMean_68 (ne_0 (by omega)) (fun x14_ e14 => ?_)
        have td14 : x14_.toInt = x7_.toInt / x13_.toInt := by rw [e14]; exact ti_div (by omega) (by omega)
        have qb : 0 ≤ x14_.toInt ∧ x14_.toInt ≤ x7_.toInt := by rw [td14]; exact ⟨Int.ediv_nonneg (by omega) (by omega), Int.ediv_le_self _ (by omega)⟩
        refine r_imul hC dX0_fillByMean_69 (fun x15_ e15 => ?_)
        have mb15 := mul_b (a := x1.toInt) (b := x14_.toInt) (A := 99) (B := 60000) (C := 5940000) (by decide) (by omega) (by omega) (by omega) (by omega)
        have tm15 : x15_.toInt = x1.toInt * x14_.toInt := by rw [e15]; exact ti_mul rfl rfl (by omega) (by omega)
        refine r_bipush hC (v := (100)) dX0_fillByMean_70 (by decide) (by decide) (fun x16_ e16 t16 => ?_)
        refine r_idiv hC dX0_fillByMean_72 (ne_0 (by omega)) (fun x17_ e17 => ?_)
        have td17 : x17_.toInt = x15_.toInt / 100 := by rw [e17, ti_div (by omega) (by omega), show x16_.toInt = 100 by omega]
        have tf : x17_.toInt = x1.toInt * ((Ps L (x3_5.toInt.toNat + 1) - Ps L (x3_5.toInt.toNat + 1 - x2.toInt.toNat)) / min x2.toInt ((x3_5.toInt.toNat : Int) + 1)) / 100 := by rw [← sw, show min x2.toInt ((x3_5.toInt.toNat : Int) + 1) = x13_.toInt by omega, ← td14]; omega
        refine x_iastore hC kdr ldr (by decide) rfl rfl dX0_fillByMean_73 (by omega) (by omega) (fun I18 eI18 => ?_)
        have hs18 := hs3.put0 eI18 kdr (rng_arr (by decide) _) rfl (xF_arr (by decide) _) (by decide)
        have hF18 := hF3.put eI18 kdr (inS_arr rfl _)
        obtain ⟨x19_, e19⟩ : ∃ z : Int32, z = x3_5 + Int32.ofInt (1) := ⟨_, rfl⟩
        refine r_iinc hC (j := 6) (v := x19_) (lv' := [(5, .int x19_), (6, .int x13_), (4, .int x7_), (0, .ref a0), (1, .int x1), (2, .int x2), (3, .ref a3)]) dX0_fillByMean_74 rfl (by rw [e19]) (by decide) rfl ?_
        try have t19 : x19_.toInt = x3_5.toInt + (1) := by rw [e19]; exact (ti_add (b := Int32.ofInt (1)) (by show _ ≤ _ + (1 : Int); omega) (by show _ + (1 : Int) ≤ _; omega))
        refine r_goto hC (tgt := 6) dX0_fillByMean_77 (by decide) ?_
        refine r_sub [3, 4, 5, 6, 2, 0] rfl ?_
        exact ih3 ((60 - x19_.toInt).toNat) (by omega) x19_ x7_ I18 hs18 hF18 (by omega) (by omega) (by first | (rw [show x19_.toInt.toNat = 0 by omega]; simp [Ps]; omega) | (rw [show x19_.toInt.toNat = x3_5.toInt.toNat + 1 by omega]; exact sw)) (by first | exact all_0 (P := fun j => (I dr j).toInt = (fun j => x1.toInt * ((Ps L (j + 1) - Ps L (j + 1 - x2.toInt.toNat)) / min x2.toInt ((j : Int) + 1)) / 100) j) (q := 0) (by omega) | exact fillf_s (f := (fun j => x1.toInt * ((Ps L (j + 1) - Ps L (j + 1 - x2.toInt.toNat)) / min x2.toInt ((j : Int) + 1)) / 100)) (k := x3_5.toNatClampNeg) v3_3 eI18 (by have h9 := clampI (i := x3_5) (by omega); omega) (by rw [clx (i := x3_5) rfl (by omega)]; exact tf) (by omega)) (by omega) (by first | exact fun b k hb => rfl | exact fill_o v3_5 eI18) rfl
      · refine r_iload hC dX0_fillByMean_26 5 rfl ?_
        refine r_iload_n hC dX0_fillByMean_28 3 rfl ?_
        refine r_icmp_lt hC (tgt := 43) dX0_fillByMean_29 (by decide) (fun c20 => ?_) (fun c20 => ?_)
        · refine r_iconst hC (v := (1)) dX0_fillByMean_43 (by decide) (by decide) (fun x21_ e21 t21 => ?_)
          refine r_iload_n hC dX0_fillByMean_44 3 rfl ?_
          refine r_iload hC dX0_fillByMean_45 5 rfl ?_
          refine r_iconst hC (v := (1)) dX0_fillByMean_47 (by decide) (by decide) (fun x22_ e22 t22 => ?_)
          refine r_iadd hC dX0_fillByMean_48 (fun x23_ e23 => ?_)
          try have t23 : x23_.toInt = x3_5.toInt + x22_.toInt := by rw [e23]; exact ti_add (by omega) (by omega)
          refine r_mmin hC mT_3_181 mT_2_154 mT_1_12 mT_2_155 (by decide) (Nat.le_of_ble_eq_true rfl) (Nat.zero_le _) (Nat.zero_le _) dX0_fillByMean_49 (fun x24_ e24 t24a t24b t24c => ?_)
          refine r_mmax hC mT_3_176 mT_3_11 mT_1_12 mT_3_12 (by decide) (Nat.le_of_ble_eq_true rfl) (Nat.zero_le _) (Nat.zero_le _) dX0_fillByMean_52 (fun x25_ e25 t25a t25b t25c => ?_)
          refine r_istore hC (lv' := [(6, .int x25_), (4, .int x7_), (0, .ref a0), (1, .int x1), (2, .int x2), (3, .ref a3), (5, .int x3_5)]) dX0_fillByMean_55 (by decide) rfl ?_
          refine r_aload_n hC dX0_fillByMean_57 2 rfl ?_
          refine r_getr hC 4 (ci := 0) rfl u0_in (by decide) mT_2_34 dX0_fillByMean_58 ka0 rfl rfl hdr ?_
          refine r_iload hC dX0_fillByMean_61 6 rfl ?_
          refine r_iload_n hC dX0_fillByMean_63 3 rfl ?_
          refine r_iload hC dX0_fillByMean_64 1 rfl ?_
          refine r_iload hC dX0_fillByMean_66 0 rfl ?_
          have sw : x7_.toInt = Ps L (x3_5.toInt.toNat + 1) - Ps L (x3_5.toInt.toNat + 1 - x2.toInt.toNat) := by first | (rw [Ps_w1 (by omega), ← v3_2, show x3_5.toInt.toNat - x2.toInt.toNat = x3_5.toInt.toNat by omega]; omega) | (rw [Ps_w0 (by omega), ← v3_2]; omega)
          have swb := Ps_b hL0 (show x3_5.toInt.toNat + 1 - x2.toInt.toNat ≤ x3_5.toInt.toNat + 1 by omega) (show x3_5.toInt.toNat + 1 ≤ 60 by omega)
          refine r_idiv hC dX0_fillByMean_68 (ne_0 (by omega)) (fun x26_ e26 => ?_)
          have td26 : x26_.toInt = x7_.toInt / x25_.toInt := by rw [e26]; exact ti_div (by omega) (by omega)
          have qb : 0 ≤ x26_.toInt ∧ x26_.toInt ≤ x7_.toInt := by rw [td26]; exact ⟨Int.ediv_nonneg (by omega) (by omega), Int.ediv_le_self _ (by omega)⟩
          refine r_imul hC dX0_fillByMean_69 (fun x27_ e27 => ?_)
          have mb27 := mul_b (a := x1.toInt) (b := x26_.toInt) (A := 99) (B := 60000) (C := 5940000) (by decide) (by omega) (by omega) (by omega) (by omega)
          have tm27 : x27_.toInt = x1.toInt * x26_.toInt := by rw [e27]; exact ti_mul rfl rfl (by omega) (by omega)
          refine r_bipush hC (v := (100)) dX0_fillByMean_70 (by decide) (by decide) (fun x28_ e28 t28 => ?_)
          refine r_idiv hC dX0_fillByMean_72 (ne_0 (by omega)) (fun x29_ e29 => ?_)
          have td29 : x29_.toInt = x27_.toInt / 100 := by rw [e29, ti_div (by omega) (by omega), show x28_.toInt = 100 by omega]
          have tf : x29_.toInt = x1.toInt * ((Ps L (x3_5.toInt.toNat + 1) - Ps L (x3_5.toInt.toNat + 1 - x2.toInt.toNat)) / min x2.toInt ((x3_5.toInt.toNat : Int) + 1)) / 100 := by rw [← sw, show min x2.toInt ((x3_5.toInt.toNat : Int) + 1) = x25_.toInt by omega, ← td26]; omega
          refine x_iastore hC kdr ldr (by decide) rfl rfl dX0_fillByMean_73 (by omega) (by omega) (fun I30 eI30 => ?_)
          have hs30 := hs3.put0 eI30 kdr (rng_arr (by decide) _) rfl (xF_arr (by decide) _) (by decide)
          have hF30 := hF3.put eI30 kdr (inS_arr rfl _)
          obtain ⟨x31_, e31⟩ : ∃ z : Int32, z = x3_5 + Int32.ofInt (1) := ⟨_, rfl⟩
          refine r_iinc hC (j := 6) (v := x31_) (lv' := [(5, .int x31_), (6, .int x25_), (4, .int x7_), (0, .ref a0), (1, .int x1), (2, .int x2), (3, .ref a3)]) dX0_fillByMean_74 rfl (by rw [e31]) (by decide) rfl ?_
          try have t31 : x31_.toInt = x3_5.toInt + (1) := by rw [e31]; exact (ti_add (b := Int32.ofInt (1)) (by show _ ≤ _ + (1 : Int); omega) (by show _ + (1 : Int) ≤ _; omega))
          refine r_goto hC (tgt := 6) dX0_fillByMean_77 (by decide) ?_
          refine r_sub [3, 4, 5, 6, 2, 0] rfl ?_
          exact ih3 ((60 - x31_.toInt).toNat) (by omega) x31_ x7_ I30 hs30 hF30 (by omega) (by omega) (by first | (rw [show x31_.toInt.toNat = 0 by omega]; simp [Ps]; omega) | (rw [show x31_.toInt.toNat = x3_5.toInt.toNat + 1 by omega]; exact sw)) (by first | exact all_0 (P := fun j => (I dr j).toInt = (fun j => x1.toInt * ((Ps L (j + 1) - Ps L (j + 1 - x2.toInt.toNat)) / min x2.toInt ((j : Int) + 1)) / 100) j) (q := 0) (by omega) | exact fillf_s (f := (fun j => x1.toInt * ((Ps L (j + 1) - Ps L (j + 1 - x2.toInt.toNat)) / min x2.toInt ((j : Int) + 1)) / 100)) (k := x3_5.toNatClampNeg) v3_3 eI30 (by have h9 := clampI (i := x3_5) (by omega); omega) (by rw [clx (i := x3_5) rfl (by omega)]; exact tf) (by omega)) (by omega) (by first | exact fun b k hb => rfl | exact fill_o v3_5 eI30) rfl
        · refine r_iload hC dX0_fillByMean_32 0 rfl ?_
          refine r_aload_n hC dX0_fillByMean_34 4 rfl ?_
          refine r_iload hC dX0_fillByMean_35 5 rfl ?_
          refine r_iload_n hC dX0_fillByMean_37 3 rfl ?_
          refine r_isub hC dX0_fillByMean_38 (fun x32_ e32 => ?_)
          try have t32 : x32_.toInt = x3_5.toInt - x2.toInt := by rw [e32]; exact ti_sub (by omega) (by omega)
          refine x_iaload hC ka3 na3 (by decide) rfl rfl dX0_fillByMean_39 (by omega) (by omega) (fun x33_ e33 => ?_)
          have ql33 := hL x32_.toInt.toNat (by omega)
          have qv33 : x33_.toInt = L x32_.toInt.toNat := by rw [e33, hF3.get ka3 rfl, clx (i := x32_) rfl (by omega)]; exact ql33.1
          refine r_isub hC dX0_fillByMean_40 (fun x34_ e34 => ?_)
          try have t34 : x34_.toInt = x7_.toInt - x33_.toInt := by rw [e34]; exact ti_sub (by omega) (by omega)
          refine r_istore hC (lv' := [(4, .int x34_), (0, .ref a0), (1, .int x1), (2, .int x2), (3, .ref a3), (5, .int x3_5)]) dX0_fillByMean_41 (by decide) rfl ?_
          refine r_iconst hC (v := (1)) dX0_fillByMean_43 (by decide) (by decide) (fun x35_ e35 t35 => ?_)
          refine r_iload_n hC dX0_fillByMean_44 3 rfl ?_
          refine r_iload hC dX0_fillByMean_45 5 rfl ?_
          refine r_iconst hC (v := (1)) dX0_fillByMean_47 (by decide) (by decide) (fun x36_ e36 t36 => ?_)
          refine r_iadd hC dX0_fillByMean_48 (fun x37_ e37 => ?_)
          try have t37 : x37_.toInt = x3_5.toInt + x36_.toInt := by rw [e37]; exact ti_add (by omega) (by omega)
          refine r_mmin hC mT_3_181 mT_2_154 mT_1_12 mT_2_155 (by decide) (Nat.le_of_ble_eq_true rfl) (Nat.zero_le _) (Nat.zero_le _) dX0_fillByMean_49 (fun x38_ e38 t38a t38b t38c => ?_)
          refine r_mmax hC mT_3_176 mT_3_11 mT_1_12 mT_3_12 (by decide) (Nat.le_of_ble_eq_true rfl) (Nat.zero_le _) (Nat.zero_le _) dX0_fillByMean_52 (fun x39_ e39 t39a t39b t39c => ?_)
          refine r_istore hC (lv' := [(6, .int x39_), (4, .int x34_), (0, .ref a0), (1, .int x1), (2, .int x2), (3, .ref a3), (5, .int x3_5)]) dX0_fillByMean_55 (by decide) rfl ?_
          refine r_aload_n hC dX0_fillByMean_57 2 rfl ?_
          refine r_getr hC 4 (ci := 0) rfl u0_in (by decide) mT_2_34 dX0_fillByMean_58 ka0 rfl rfl hdr ?_
          refine r_iload hC dX0_fillByMean_61 6 rfl ?_
          refine r_iload_n hC dX0_fillByMean_63 3 rfl ?_
          refine r_iload hC dX0_fillByMean_64 1 rfl ?_
          refine r_iload hC dX0_fillByMean_66 0 rfl ?_
          have sw : x34_.toInt = Ps L (x3_5.toInt.toNat + 1) - Ps L (x3_5.toInt.toNat + 1 - x2.toInt.toNat) := by first | (rw [Ps_w1 (by omega), ← v3_2, show x3_5.toInt.toNat - x2.toInt.toNat = x32_.toInt.toNat by omega]; omega) | (rw [Ps_w0 (by omega), ← v3_2]; omega)
          have swb := Ps_b hL0 (show x3_5.toInt.toNat + 1 - x2.toInt.toNat ≤ x3_5.toInt.toNat + 1 by omega) (show x3_5.toInt.toNat + 1 ≤ 60 by omega)
          refine r_idiv hC dX0_fillByMean_68 (ne_0 (by omega)) (fun x40_ e40 => ?_)
          have td40 : x40_.toInt = x34_.toInt / x39_.toInt := by rw [e40]; exact ti_div (by omega) (by omega)
          have qb : 0 ≤ x40_.toInt ∧ x40_.toInt ≤ x34_.toInt := by rw [td40]; exact ⟨Int.ediv_nonneg (by omega) (by omega), Int.ediv_le_self _ (by omega)⟩
          refine r_imul hC dX0_fillByMean_69 (fun x41_ e41 => ?_)
          have mb41 := mul_b (a := x1.toInt) (b := x40_.toInt) (A := 99) (B := 60000) (C := 5940000) (by decide) (by omega) (by omega) (by omega) (by omega)
          have tm41 : x41_.toInt = x1.toInt * x40_.toInt := by rw [e41]; exact ti_mul rfl rfl (by omega) (by omega)
          refine r_bipush hC (v := (100)) dX0_fillByMean_70 (by decide) (by decide) (fun x42_ e42 t42 => ?_)
          refine r_idiv hC dX0_fillByMean_72 (ne_0 (by omega)) (fun x43_ e43 => ?_)
          have td43 : x43_.toInt = x41_.toInt / 100 := by rw [e43, ti_div (by omega) (by omega), show x42_.toInt = 100 by omega]
          have tf : x43_.toInt = x1.toInt * ((Ps L (x3_5.toInt.toNat + 1) - Ps L (x3_5.toInt.toNat + 1 - x2.toInt.toNat)) / min x2.toInt ((x3_5.toInt.toNat : Int) + 1)) / 100 := by rw [← sw, show min x2.toInt ((x3_5.toInt.toNat : Int) + 1) = x39_.toInt by omega, ← td40]; omega
          refine x_iastore hC kdr ldr (by decide) rfl rfl dX0_fillByMean_73 (by omega) (by omega) (fun I44 eI44 => ?_)
          have hs44 := hs3.put0 eI44 kdr (rng_arr (by decide) _) rfl (xF_arr (by decide) _) (by decide)
          have hF44 := hF3.put eI44 kdr (inS_arr rfl _)
          obtain ⟨x45_, e45⟩ : ∃ z : Int32, z = x3_5 + Int32.ofInt (1) := ⟨_, rfl⟩
          refine r_iinc hC (j := 6) (v := x45_) (lv' := [(5, .int x45_), (6, .int x39_), (4, .int x34_), (0, .ref a0), (1, .int x1), (2, .int x2), (3, .ref a3)]) dX0_fillByMean_74 rfl (by rw [e45]) (by decide) rfl ?_
          try have t45 : x45_.toInt = x3_5.toInt + (1) := by rw [e45]; exact (ti_add (b := Int32.ofInt (1)) (by show _ ≤ _ + (1 : Int); omega) (by show _ + (1 : Int) ≤ _; omega))
          refine r_goto hC (tgt := 6) dX0_fillByMean_77 (by decide) ?_
          refine r_sub [3, 4, 5, 6, 2, 0] rfl ?_
          exact ih3 ((60 - x45_.toInt).toNat) (by omega) x45_ x34_ I44 hs44 hF44 (by omega) (by omega) (by first | (rw [show x45_.toInt.toNat = 0 by omega]; simp [Ps]; omega) | (rw [show x45_.toInt.toNat = x3_5.toInt.toNat + 1 by omega]; exact sw)) (by first | exact all_0 (P := fun j => (I dr j).toInt = (fun j => x1.toInt * ((Ps L (j + 1) - Ps L (j + 1 - x2.toInt.toNat)) / min x2.toInt ((j : Int) + 1)) / 100) j) (q := 0) (by omega) | exact fillf_s (f := (fun j => x1.toInt * ((Ps L (j + 1) - Ps L (j + 1 - x2.toInt.toNat)) / min x2.toInt ((j : Int) + 1)) / 100)) (k := x3_5.toNatClampNeg) v3_3 eI44 (by have h9 := clampI (i := x3_5) (by omega); omega) (by rw [clx (i := x3_5) rfl (by omega)]; exact tf) (by omega)) (by omega) (by first | exact fun b k hb => rfl | exact fill_o v3_5 eI44) rfl
  refine r_sub [2, 3, 4, 5, 1, 0] rfl ?_
  exact LP3 _ x2_ x1_ I hs hF (by omega) (by omega) (by first | (rw [show x2_.toInt.toNat = 0 by omega]; simp [Ps]; omega) | (rw [show x2_.toInt.toNat = x3_5.toInt.toNat + 1 by omega]; exact sw)) (by first | exact all_0 (P := fun j => (I dr j).toInt = (fun j => x1.toInt * ((Ps L (j + 1) - Ps L (j + 1 - x2.toInt.toNat)) / min x2.toInt ((j : Int) + 1)) / 100) j) (q := 0) (by omega) | exact fillf_s (f := (fun j => x1.toInt * ((Ps L (j + 1) - Ps L (j + 1 - x2.toInt.toNat)) / min x2.toInt ((j : Int) + 1)) / 100)) (k := x3_5.toNatClampNeg) v3_3 eI (by have h9 := clampI (i := x3_5) (by omega); omega) (by rw [clx (i := x3_5) rfl (by omega)]; exact tf) (by omega)) (by omega) (by first | exact fun b k hb => rfl | exact fill_o v3_5 eI) rfl
set_option maxHeartbeats 4000000 in
set_option maxRecDepth 100000 in
theorem f_X0_fillByRain (g : GG) (l : Launch) (K len : Nat → Nat) (I : Nat → Nat → Int32) (J : Nat → Nat → Int64) (R : Nat → Nat → Option Nat) (hs : Sf K len I R) (a0 : Nat) (ka0 : K a0 = 1) (x1 : Int32) (a2 : Nat) (ka2 : K a2 = 57) (na2 : len a2 = 60) (dr : Nat) (hdr : R a0 4 = some dr) (kdr : K dr = 54) (ldr : len dr = 60) (L : Nat → Int) (hL : ∀ j : Nat, j < 60 → (I a2 j).toInt = L j ∧ 0 ≤ L j ∧ L j ≤ 594) (p0 : 0 ≤ x1.toInt ∧ x1.toInt ≤ 99) : Ct g l yX0_fillByRain cX0_fillByRain 5 (Option.none : Option Jvm.ClassFile.FieldType) rmX0_fillByRain [.ref a0, .int x1, .ref a2] (K, len, I, J, R) (pV1 (K, len, I, J, R) (fun I' => Sf K len I' R ∧ Fr K [(54, 999)] I I' ∧ (∀ j : Nat, j < 60 → (I' dr j).toInt = x1.toInt * (Ps L (j + 1) - Ps L (j + 1 - 5))) ∧ (∀ b k, b ≠ dr → I' b k = I b k))) := by
  refine Ct_intro (by decide +kernel) (Nat.le_of_ble_eq_true rfl) (fun X hC hL hKK hNm hr hlk hQ => ?_)
  subst hL
  have hC : Cx g X cX0_fillByRain "HillTap$Course" 5 rmX0_fillByRain := hC
  show P g X 5 0 [(0, .ref a0), (1, .int x1), (2, .ref a2)] [] 0 0 (K, len, I, J, R)
  have hF : Fr K [(54, 999)] I I := Fr.refl
  have hL0 : ∀ j : Nat, j < 60 → 0 ≤ L j ∧ L j ≤ 594 := fun j hj => (hL j hj).2
  have b_x1 := ti_rng x1
  refine r_iconst hC (v := (0)) dX0_fillByRain_0 (by decide) (by decide) (fun x1_ e1 t1 => ?_)
  refine r_istore_n hC (lv' := [(3, .int x1_), (0, .ref a0), (1, .int x1), (2, .ref a2)]) dX0_fillByRain_1 (by decide) rfl ?_
  refine r_iconst hC (v := (0)) dX0_fillByRain_2 (by decide) (by decide) (fun x2_ e2 t2 => ?_)
  refine r_istore hC (lv' := [(4, .int x2_), (3, .int x1_), (0, .ref a0), (1, .int x1), (2, .ref a2)]) dX0_fillByRain_3 (by decide) rfl ?_
  have LP3 : ∀ (mu : Nat) (x3_4 : Int32) (x3_3 : Int32) (I3 : Nat → Nat → Int32) (hs3 : Sf K len I3 R) (hF3 : Fr K [(54, 999)] I I3) (v3_0 : 0 ≤ x3_4.toInt) (v3_1 : x3_4.toInt ≤ 60) (v3_2 : x3_3.toInt = Ps L x3_4.toInt.toNat - Ps L (x3_4.toInt.toNat - 5)) (v3_3 : ∀ j : Nat, 0 ≤ j → (j : Int) < x3_4.toInt → (I3 dr j).toInt = (fun j => x1.toInt * (Ps L (j + 1) - Ps L (j + 1 - 5))) j) (v3_4 : 0 ≤ x3_3.toInt ∧ x3_3.toInt ≤ 35640) (v3_5 : ∀ b k, b ≠ dr → I3 b k = I b k), (60 - x3_4.toInt).toNat = mu → P g X 5 5 [(0, .ref a0), (1, .int x1), (2, .ref a2), (3, .int x3_3), (4, .int x3_4)] [] 0 0 (K, len, I3, J, R) := by
    intro mu; induction mu using Nat.strongRecOn with | ind mu ih => ?_
    intro x3_4 x3_3 I3 hs3 hF3 v3_0 v3_1 v3_2 v3_3 v3_4 v3_5 hmu
    have ih3 := ih
    clear ih
    have hmu3 := hmu
    clear hmu
    refine r_iload hC dX0_fillByRain_5 4 rfl ?_
    refine r_bipush hC (v := (60)) dX0_fillByRain_7 (by decide) (by decide) (fun x4_ e4 t4 => ?_)
    refine r_icmp_ge hC (tgt := 50) dX0_fillByRain_9 (by decide) (fun c5 => ?_) (fun c5 => ?_)
    · exact r_vret hC hQ hlk hr (by decide) (by decide) dX0_fillByRain_50 ⟨_, rfl, rfl, ⟨hs3, hF3, (by exact fun j hj => v3_3 j (Nat.zero_le j) (by omega)), (by exact v3_5)⟩⟩
    · refine r_iload_n hC dX0_fillByRain_12 3 rfl ?_
      refine r_aload_n hC dX0_fillByRain_13 2 rfl ?_
      refine r_iload hC dX0_fillByRain_14 4 rfl ?_
      refine x_iaload hC ka2 na2 (by decide) rfl rfl dX0_fillByRain_16 (by omega) (by omega) (fun x6_ e6 => ?_)
      have ql6 := hL x3_4.toInt.toNat (by omega)
      have qv6 : x6_.toInt = L x3_4.toInt.toNat := by rw [e6, hF3.get ka2 rfl, clx (i := x3_4) rfl (by omega)]; exact ql6.1
      refine r_iadd hC dX0_fillByRain_17 (fun x7_ e7 => ?_)
      try have t7 : x7_.toInt = x3_3.toInt + x6_.toInt := by rw [e7]; exact ti_add (by omega) (by omega)
      refine r_istore_n hC (lv' := [(3, .int x7_), (0, .ref a0), (1, .int x1), (2, .ref a2), (4, .int x3_4)]) dX0_fillByRain_18 (by decide) rfl ?_
      refine r_iload hC dX0_fillByRain_19 4 rfl ?_
      refine r_iconst hC (v := (5)) dX0_fillByRain_21 (by decide) (by decide) (fun x8_ e8 t8 => ?_)
      refine r_icmp_lt hC (tgt := 34) dX0_fillByRain_22 (by decide) (fun c9 => ?_) (fun c9 => ?_)
      · have sw : x7_.toInt = Ps L (x3_4.toInt.toNat + 1) - Ps L (x3_4.toInt.toNat + 1 - 5) := by first | (rw [Ps_w1 (by omega), ← v3_2, show x3_4.toInt.toNat - 5 = x3_4.toInt.toNat by omega]; omega) | (rw [Ps_w0 (by omega), ← v3_2]; omega)
        have swb := Ps_b hL0 (show x3_4.toInt.toNat + 1 - 5 ≤ x3_4.toInt.toNat + 1 by omega) (show x3_4.toInt.toNat + 1 ≤ 60 by omega)
        refine r_aload_n hC dX0_fillByRain_34 1 rfl ?_
        refine r_getr hC 4 (ci := 0) rfl u0_in (by decide) mT_2_34 dX0_fillByRain_35 ka0 rfl rfl hdr ?_
        refine r_iload hC dX0_fillByRain_38 4 rfl ?_
        refine r_iload_n hC dX0_fillByRain_40 2 rfl ?_
        refine r_iload_n hC dX0_fillByRain_41 0 rfl ?_
        refine r_imul hC dX0_fillByRain_42 (fun x10_ e10 => ?_)
        have mb10 := mul_b (a := x1.toInt) (b := x7_.toInt) (A := 99) (B := 36000) (C := 3564000) (by decide) (by omega) (by omega) (by omega) (by omega)
        have tm10 : x10_.toInt = x1.toInt * x7_.toInt := by rw [e10]; exact ti_mul rfl rfl (by omega) (by omega)
        have tf : x10_.toInt = x1.toInt * (Ps L (x3_4.toInt.toNat + 1) - Ps L (x3_4.toInt.toNat + 1 - 5)) := by rw [← sw]; omega
        refine x_iastore hC kdr ldr (by decide) rfl rfl dX0_fillByRain_43 (by omega) (by omega) (fun I11 eI11 => ?_)
        have hs11 := hs3.put0 eI11 kdr (rng_arr (by decide) _) rfl (xF_arr (by decide) _) (by decide)
        have hF11 := hF3.put eI11 kdr (inS_arr rfl _)
        obtain ⟨x12_, e12⟩ : ∃ z : Int32, z = x3_4 + Int32.ofInt (1) := ⟨_, rfl⟩
        refine r_iinc hC (j := 4) (v := x12_) (lv' := [(4, .int x12_), (3, .int x7_), (0, .ref a0), (1, .int x1), (2, .ref a2)]) dX0_fillByRain_44 rfl (by rw [e12]) (by decide) rfl ?_
        try have t12 : x12_.toInt = x3_4.toInt + (1) := by rw [e12]; exact (ti_add (b := Int32.ofInt (1)) (by show _ ≤ _ + (1 : Int); omega) (by show _ + (1 : Int) ≤ _; omega))
        refine r_goto hC (tgt := 5) dX0_fillByRain_47 (by decide) ?_
        refine r_sub [2, 3, 4, 1, 0] rfl ?_
        exact ih3 ((60 - x12_.toInt).toNat) (by omega) x12_ x7_ I11 hs11 hF11 (by omega) (by omega) (by first | (rw [show x12_.toInt.toNat = 0 by omega]; simp [Ps]; omega) | (rw [show x12_.toInt.toNat = x3_4.toInt.toNat + 1 by omega]; exact sw)) (by first | exact all_0 (P := fun j => (I dr j).toInt = (fun j => x1.toInt * (Ps L (j + 1) - Ps L (j + 1 - 5))) j) (q := 0) (by omega) | exact fillf_s (f := (fun j => x1.toInt * (Ps L (j + 1) - Ps L (j + 1 - 5)))) (k := x3_4.toNatClampNeg) v3_3 eI11 (by have h9 := clampI (i := x3_4) (by omega); omega) (by rw [clx (i := x3_4) rfl (by omega)]; exact tf) (by omega)) (by omega) (by first | exact fun b k hb => rfl | exact fill_o v3_5 eI11) rfl
      · refine r_iload_n hC dX0_fillByRain_25 0 rfl ?_
        refine r_aload_n hC dX0_fillByRain_26 3 rfl ?_
        refine r_iload hC dX0_fillByRain_27 4 rfl ?_
        refine r_iconst hC (v := (5)) dX0_fillByRain_29 (by decide) (by decide) (fun x13_ e13 t13 => ?_)
        refine r_isub hC dX0_fillByRain_30 (fun x14_ e14 => ?_)
        try have t14 : x14_.toInt = x3_4.toInt - x13_.toInt := by rw [e14]; exact ti_sub (by omega) (by omega)
        refine x_iaload hC ka2 na2 (by decide) rfl rfl dX0_fillByRain_31 (by omega) (by omega) (fun x15_ e15 => ?_)
        have ql15 := hL x14_.toInt.toNat (by omega)
        have qv15 : x15_.toInt = L x14_.toInt.toNat := by rw [e15, hF3.get ka2 rfl, clx (i := x14_) rfl (by omega)]; exact ql15.1
        refine r_isub hC dX0_fillByRain_32 (fun x16_ e16 => ?_)
        try have t16 : x16_.toInt = x7_.toInt - x15_.toInt := by rw [e16]; exact ti_sub (by omega) (by omega)
        refine r_istore_n hC (lv' := [(3, .int x16_), (0, .ref a0), (1, .int x1), (2, .ref a2), (4, .int x3_4)]) dX0_fillByRain_33 (by decide) rfl ?_
        have sw : x16_.toInt = Ps L (x3_4.toInt.toNat + 1) - Ps L (x3_4.toInt.toNat + 1 - 5) := by first | (rw [Ps_w1 (by omega), ← v3_2, show x3_4.toInt.toNat - 5 = x14_.toInt.toNat by omega]; omega) | (rw [Ps_w0 (by omega), ← v3_2]; omega)
        have swb := Ps_b hL0 (show x3_4.toInt.toNat + 1 - 5 ≤ x3_4.toInt.toNat + 1 by omega) (show x3_4.toInt.toNat + 1 ≤ 60 by omega)
        refine r_aload_n hC dX0_fillByRain_34 1 rfl ?_
        refine r_getr hC 4 (ci := 0) rfl u0_in (by decide) mT_2_34 dX0_fillByRain_35 ka0 rfl rfl hdr ?_
        refine r_iload hC dX0_fillByRain_38 4 rfl ?_
        refine r_iload_n hC dX0_fillByRain_40 2 rfl ?_
        refine r_iload_n hC dX0_fillByRain_41 0 rfl ?_
        refine r_imul hC dX0_fillByRain_42 (fun x17_ e17 => ?_)
        have mb17 := mul_b (a := x1.toInt) (b := x16_.toInt) (A := 99) (B := 36000) (C := 3564000) (by decide) (by omega) (by omega) (by omega) (by omega)
        have tm17 : x17_.toInt = x1.toInt * x16_.toInt := by rw [e17]; exact ti_mul rfl rfl (by omega) (by omega)
        have tf : x17_.toInt = x1.toInt * (Ps L (x3_4.toInt.toNat + 1) - Ps L (x3_4.toInt.toNat + 1 - 5)) := by rw [← sw]; omega
        refine x_iastore hC kdr ldr (by decide) rfl rfl dX0_fillByRain_43 (by omega) (by omega) (fun I18 eI18 => ?_)
        have hs18 := hs3.put0 eI18 kdr (rng_arr (by decide) _) rfl (xF_arr (by decide) _) (by decide)
        have hF18 := hF3.put eI18 kdr (inS_arr rfl _)
        obtain ⟨x19_, e19⟩ : ∃ z : Int32, z = x3_4 + Int32.ofInt (1) := ⟨_, rfl⟩
        refine r_iinc hC (j := 4) (v := x19_) (lv' := [(4, .int x19_), (3, .int x16_), (0, .ref a0), (1, .int x1), (2, .ref a2)]) dX0_fillByRain_44 rfl (by rw [e19]) (by decide) rfl ?_
        try have t19 : x19_.toInt = x3_4.toInt + (1) := by rw [e19]; exact (ti_add (b := Int32.ofInt (1)) (by show _ ≤ _ + (1 : Int); omega) (by show _ + (1 : Int) ≤ _; omega))
        refine r_goto hC (tgt := 5) dX0_fillByRain_47 (by decide) ?_
        refine r_sub [2, 3, 4, 1, 0] rfl ?_
        exact ih3 ((60 - x19_.toInt).toNat) (by omega) x19_ x16_ I18 hs18 hF18 (by omega) (by omega) (by first | (rw [show x19_.toInt.toNat = 0 by omega]; simp [Ps]; omega) | (rw [show x19_.toInt.toNat = x3_4.toInt.toNat + 1 by omega]; exact sw)) (by first | exact all_0 (P := fun j => (I dr j).toInt = (fun j => x1.toInt * (Ps L (j + 1) - Ps L (j + 1 - 5))) j) (q := 0) (by omega) | exact fillf_s (f := (fun j => x1.toInt * (Ps L (j + 1) - Ps L (j + 1 - 5)))) (k := x3_4.toNatClampNeg) v3_3 eI18 (by have h9 := clampI (i := x3_4) (by omega); omega) (by rw [clx (i := x3_4) rfl (by omega)]; exact tf) (by omega)) (by omega) (by first | exact fun b k hb => rfl | exact fill_o v3_5 eI18) rfl
  refine r_sub [2, 3, 4, 1, 0] rfl ?_
  exact LP3 _ x2_ x1_ I hs hF (by omega) (by omega) (by first | (rw [show x2_.toInt.toNat = 0 by omega]; simp [Ps]; omega) | (rw [show x2_.toInt.toNat = x3_4.toInt.toNat + 1 by omega]; exact sw)) (by first | exact all_0 (P := fun j => (I dr j).toInt = (fun j => x1.toInt * (Ps L (j + 1) - Ps L (j + 1 - 5))) j) (q := 0) (by omega) | exact fillf_s (f := (fun j => x1.toInt * (Ps L (j + 1) - Ps L (j + 1 - 5)))) (k := x3_4.toNatClampNeg) v3_3 eI (by have h9 := clampI (i := x3_4) (by omega); omega) (by rw [clx (i := x3_4) rfl (by omega)]; exact tf) (by omega)) (by omega) (by first | exact fun b k hb => rfl | exact fill_o v3_5 eI) rfl
set_option maxHeartbeats 4000000 in
set_option maxRecDepth 100000 in
theorem f_X0_fillAdds (g : GG) (l : Launch) (K len : Nat → Nat) (I : Nat → Nat → Int32) (J : Nat → Nat → Int64) (R : Nat → Nat → Option Nat) (hs : Sf K len I R) (a0 : Nat) (ka0 : K a0 = 1) (a1 : Nat) (ka1 : K a1 = 2) (a2 : Nat) (ka2 : K a2 = 5) (a3 : Nat) (ka3 : K a3 = 41) (na3 : len a3 = 60) (x4 : Int32) (dr : Nat) (hdr : R a0 4 = some dr) (kdr : K dr = 54) (ldr : len dr = 60) (L : Nat → Int) (hL : ∀ j : Nat, j < 60 → (I a3 j).toInt = L j ∧ 0 ≤ L j ∧ L j ≤ 999) (D : DD) (hJ : DJ D) (h6 : D 0 6 ≤ 6) (s : Nat) (hsk : (s : Int) < D 0 7) (k7 : (I a2 1).toInt = D 7 s) (k8 : (I a2 2).toInt = D 8 s) (k9 : D 7 s = 2 ∨ D 7 s = 3 ∨ D 7 s = 4 → (I a2 3).toInt = D 9 s) (lk : Nat) (hlk2 : R a1 0 = some lk) (klk : K lk = 3) (hd1 : (I lk 1).toInt = D 0 1) (rr : Nat) (hrr : R a1 5 = some rr) (krr : K rr = 57) (lrr : len rr = 60) (hrn : ∀ j : Nat, j < 60 → (I rr j).toInt = D 5 j) : Ct g l yX0_fillAdds cX0_fillAdds 6 (Option.none : Option Jvm.ClassFile.FieldType) rmX0_fillAdds [.ref a0, .ref a1, .ref a2, .ref a3, .int x4] (K, len, I, J, R) (pV1 (K, len, I, J, R) (fun I' => Sf K len I' R ∧ Fr K [(54, 999)] I I' ∧ (∀ j : Nat, j < 60 → (I' dr j).toInt = Ad D s L x4.toInt j) ∧ (∀ b k, b ≠ dr → I' b k = I b k))) := by
  refine Ct_intro (by decide +kernel) (Nat.le_of_ble_eq_true rfl) (fun X hC hL hKK hNm hr hlk hQ => ?_)
  subst hL
  have hC : Cx g X cX0_fillAdds "HillTap$Course" 6 rmX0_fillAdds := hC
  show P g X 6 0 [(0, .ref a0), (1, .ref a1), (2, .ref a2), (3, .ref a3), (4, .int x4)] [] 0 0 (K, len, I, J, R)
  have hF : Fr K [(54, 999)] I I := Fr.refl
  have j7 := hJ.k7 s
  have j8 := hJ.k8 s
  have j9 := hJ.k9 s
  have jm := hJ.2.2.2.2.2.1 s hsk
  have jst := hJ.2.2.2.2.1
  have hk8c : ∀ (I1 : Nat → Nat → Int32), Fr K [(54, 999)] I I1 → (I1 a2 2).toInt = D 8 s := fun I1 h9 => by rw [h9.get ka2 rfl]; exact k8
  have b_x4 := ti_rng x4
  refine r_aload_n hC dX0_fillAdds_0 2 rfl ?_
  refine r_geti hC 1 (ci := 4) rfl u4_in (by decide) mT_1_163 dX0_fillAdds_1 ka2 rfl rfl (fun x1_ e1 => ?_)
  have f1 : x1_.toInt = (I a2 1).toInt := by rw [e1]
  by_cases o2 : x1_.toInt < 1 ∨ 5 < x1_.toInt
  · refine r_tabOut hC (tgt := 99) dX0_fillAdds_4 o2 (by decide) ?_
    refine r_iconst hC (v := (0)) dX0_fillAdds_99 (by decide) (by decide) (fun x3_ e3 t3 => ?_)
    refine r_istore hC (lv' := [(5, .int x3_), (0, .ref a0), (1, .ref a1), (2, .ref a2), (3, .ref a3), (4, .int x4)]) dX0_fillAdds_100 (by decide) rfl ?_
    have LP4 : ∀ (mu : Nat) (x4_5 : Int32) (I4 : Nat → Nat → Int32) (hs4 : Sf K len I4 R) (hF4 : Fr K [(54, 999)] I I4) (v4_0 : 0 ≤ x4_5.toInt) (v4_1 : x4_5.toInt ≤ 60) (v4_2 : D 7 s ≠ 1 ∧ D 7 s ≠ 2 ∧ D 7 s ≠ 5) (v4_3 : ∀ j : Nat, 0 ≤ j → (j : Int) < x4_5.toInt → (I4 dr j).toInt = (fun j => D 8 s * L j / 100) j) (v4_4 : ∀ b k, b ≠ dr → I4 b k = I b k), (60 - x4_5.toInt).toNat = mu → P g X 6 102 [(0, .ref a0), (1, .ref a1), (2, .ref a2), (3, .ref a3), (4, .int x4), (5, .int x4_5)] [] 0 0 (K, len, I4, J, R) := by
      intro mu; induction mu using Nat.strongRecOn with | ind mu ih => ?_
      intro x4_5 I4 hs4 hF4 v4_0 v4_1 v4_2 v4_3 v4_4 hmu
      have ih4 := ih
      clear ih
      have hmu4 := hmu
      clear hmu
      refine r_iload hC dX0_fillAdds_102 5 rfl ?_
      refine r_bipush hC (v := (60)) dX0_fillAdds_104 (by decide) (by decide) (fun x5_ e5 t5 => ?_)
      refine r_icmp_ge hC (tgt := 134) dX0_fillAdds_106 (by decide) (fun c6 => ?_) (fun c6 => ?_)
      · exact r_vret hC hQ hlk hr (by decide) (by decide) dX0_fillAdds_134 ⟨_, rfl, rfl, ⟨hs4, hF4, (by first | exact fun j hj => (v4_3 j (Nat.zero_le j) (by omega)).trans (Ad_d v4_2).symm | exact fun j hj => by rw [Ad_1 (by omega), k0_0 j hj, show D 8 s = NOca0.toInt by omega, show D 0 1 = NOca1.toInt by omega] | exact fun j hj => by rw [Ad_2 (by omega), k0_0 j hj, show D 8 s = NOca0.toInt by omega, show D 9 s = NOca1.toInt by (have h9 := k9 (Or.inl (by omega)); omega)] | exact fun j hj => by rw [Ad_5 (by omega) (by omega), k0_0 j hj, show D 8 s = NOca0.toInt by omega] | exact fun j hj => by rw [Ad_5n (by omega) (by omega), k0_0 j hj, NOz0]; exact Int.zero_mul _), (by first | exact v4_4 | exact k0_1)⟩⟩
      · have k8c := hk8c I4 hF4
        refine r_aload_n hC dX0_fillAdds_109 0 rfl ?_
        refine r_getr hC 4 (ci := 0) rfl u0_in (by decide) mT_2_34 dX0_fillAdds_110 ka0 rfl rfl hdr ?_
        refine r_iload hC dX0_fillAdds_113 5 rfl ?_
        refine r_aload_n hC dX0_fillAdds_115 2 rfl ?_
        refine r_geti hC 2 (ci := 4) rfl u4_in (by decide) mT_1_167 dX0_fillAdds_116 ka2 rfl rfl (fun x7_ e7 => ?_)
        have f7 : x7_.toInt = (I4 a2 2).toInt := by rw [e7]
        refine r_aload_n hC dX0_fillAdds_119 3 rfl ?_
        refine r_iload hC dX0_fillAdds_120 5 rfl ?_
        refine x_iaload hC ka3 na3 (by decide) rfl rfl dX0_fillAdds_122 (by omega) (by omega) (fun x8_ e8 => ?_)
        have ql8 := hL x4_5.toInt.toNat (by omega)
        have qv8 : x8_.toInt = L x4_5.toInt.toNat := by rw [e8, hF4.get ka3 rfl, clx (i := x4_5) rfl (by omega)]; exact ql8.1
        refine r_imul hC dX0_fillAdds_123 (fun x9_ e9 => ?_)
        have mb9 := mul_b (a := x7_.toInt) (b := x8_.toInt) (A := 99) (B := 999) (C := 98901) (by decide) (by omega) (by omega) (by omega) (by omega)
        have tm9 : x9_.toInt = x7_.toInt * x8_.toInt := by rw [e9]; exact ti_mul rfl rfl (by omega) (by omega)
        refine r_bipush hC (v := (100)) dX0_fillAdds_124 (by decide) (by decide) (fun x10_ e10 t10 => ?_)
        refine r_idiv hC dX0_fillAdds_126 (ne_0 (by omega)) (fun x11_ e11 => ?_)
        have td11 : x11_.toInt = x9_.toInt / 100 := by rw [e11, ti_div (by omega) (by omega), show x10_.toInt = 100 by omega]
        have tf : x11_.toInt = D 8 s * L x4_5.toInt.toNat / 100 := by rw [show D 8 s = x7_.toInt by omega, show L x4_5.toInt.toNat = x8_.toInt by omega]; omega
        refine x_iastore hC kdr ldr (by decide) rfl rfl dX0_fillAdds_127 (by omega) (by omega) (fun I12 eI12 => ?_)
        have hs12 := hs4.put0 eI12 kdr (rng_arr (by decide) _) rfl (xF_arr (by decide) _) (by decide)
        have hF12 := hF4.put eI12 kdr (inS_arr rfl _)
        obtain ⟨x13_, e13⟩ : ∃ z : Int32, z = x4_5 + Int32.ofInt (1) := ⟨_, rfl⟩
        refine r_iinc hC (j := 5) (v := x13_) (lv' := [(5, .int x13_), (0, .ref a0), (1, .ref a1), (2, .ref a2), (3, .ref a3), (4, .int x4)]) dX0_fillAdds_128 rfl (by rw [e13]) (by decide) rfl ?_
        try have t13 : x13_.toInt = x4_5.toInt + (1) := by rw [e13]; exact (ti_add (b := Int32.ofInt (1)) (by show _ ≤ _ + (1 : Int); omega) (by show _ + (1 : Int) ≤ _; omega))
        refine r_goto hC (tgt := 102) dX0_fillAdds_131 (by decide) ?_
        refine r_sub [1, 2, 3, 4, 5, 0] rfl ?_
        exact ih4 ((60 - x13_.toInt).toNat) (by omega) x13_ I12 hs12 hF12 (by omega) (by omega) (by omega) (by first | exact all_0 (P := fun j => (I dr j).toInt = (fun j => D 8 s * L j / 100) j) (q := 0) (by omega) | exact fillf_s (f := (fun j => D 8 s * L j / 100)) (k := x4_5.toNatClampNeg) v4_3 eI12 (by have h9 := clampI (i := x4_5) (by omega); omega) (by rw [clx (i := x4_5) rfl (by omega)]; exact tf) (by omega)) (by first | exact fun b k hb => rfl | exact fill_o v4_4 eI12) rfl
    refine r_sub [1, 2, 3, 4, 5, 0] rfl ?_
    exact LP4 _ x3_ I hs hF (by omega) (by omega) (by omega) (by first | exact all_0 (P := fun j => (I dr j).toInt = (fun j => D 8 s * L j / 100) j) (q := 0) (by omega) | exact fillf_s (f := (fun j => D 8 s * L j / 100)) (k := x4_5.toNatClampNeg) v4_3 eI (by have h9 := clampI (i := x4_5) (by omega); omega) (by rw [clx (i := x4_5) rfl (by omega)]; exact tf) (by omega)) (by first | exact fun b k hb => rfl | exact fill_o v4_4 eI) rfl
  · rcases (show x1_.toInt = 1 ∨ x1_.toInt = 2 ∨ x1_.toInt = 3 ∨ x1_.toInt = 4 ∨ x1_.toInt = 5 by omega) with o2 | o2 | o2 | o2 | o2
    · refine r_tabIn hC (tgt := 40) (off := 36) dX0_fillAdds_4 (by omega) (by omega) (by rw [o2]; decide) (by decide) ?_
      refine r_aload_n hC dX0_fillAdds_40 0 rfl ?_
      refine r_aload_n hC dX0_fillAdds_41 2 rfl ?_
      refine r_geti hC 2 (ci := 4) rfl u4_in (by decide) mT_1_167 dX0_fillAdds_42 ka2 rfl rfl (fun x14_ e14 => ?_)
      have f14 : x14_.toInt = (I a2 2).toInt := by rw [e14]
      refine r_aload_n hC dX0_fillAdds_45 1 rfl ?_
      refine r_getr hC 0 (ci := 1) rfl u1_in (by decide) mT_1_183 dX0_fillAdds_46 ka1 rfl rfl hlk2 ?_
      refine r_geti hC 1 (ci := 2) rfl u2_in (by decide) mT_1_121 dX0_fillAdds_49 klk rfl rfl (fun x15_ e15 => ?_)
      have f15 : x15_.toInt = (I lk 1).toInt := by rw [e15]
      refine r_aload_n hC dX0_fillAdds_52 3 rfl ?_
      refine r_callV hC (As := [.int x14_, .int x15_, .ref a3]) (rest := []) (ci := 0) (f_X0_fillByRise g (xL X) K len I J R hs a0 ka0 x14_ x15_ a3 ka3 na3 dr hdr kdr ldr L hL (by omega) (by omega)) mT_3_175 mT_1_8 mT_3_172 mT_3_174 mP_28 okX0_fillByRise ⟨by decide, by decide⟩ rfl (by show kO (K a0) = _; rw [ka0]; rfl) rfl rfl (Nat.le_of_ble_eq_true rfl) ⟨by decide, by decide⟩ dX0_fillAdds_53 (aV1 (F := fun st M => P g X 6 56 [(0, .ref a0), (1, .ref a1), (2, .ref a2), (3, .ref a3), (4, .int x4)] st _ _ M) (M := (K, len, I, J, R)) fun I16 h16 => ?_)
      obtain ⟨hs16, hf16, k16_0, k16_1⟩ := h16
      show P g X 6 56 [(0, .ref a0), (1, .ref a1), (2, .ref a2), (3, .ref a3), (4, .int x4)] [] _ _ (K, len, I16, J, R)
      have hF16 : Fr K [(54, 999)] I I16 := hF.trans hf16 rfl rfl
      refine r_goto hC (tgt := 134) dX0_fillAdds_56 (by decide) ?_
      exact r_vret hC hQ hlk hr (by decide) (by decide) dX0_fillAdds_134 ⟨_, rfl, rfl, ⟨hs16, hF16, (by first | exact fun j hj => (NOx_v102_3 j (Nat.zero_le j) (by omega)).trans (Ad_d NOx_v102_2).symm | exact fun j hj => by rw [Ad_1 (by omega), k16_0 j hj, show D 8 s = x14_.toInt by omega, show D 0 1 = x15_.toInt by omega] | exact fun j hj => by rw [Ad_2 (by omega), k16_0 j hj, show D 8 s = x14_.toInt by omega, show D 9 s = x15_.toInt by (have h9 := k9 (Or.inl (by omega)); omega)] | exact fun j hj => by rw [Ad_5 (by omega) (by omega), k16_0 j hj, show D 8 s = x14_.toInt by omega] | exact fun j hj => by rw [Ad_5n (by omega) (by omega), k16_0 j hj, NOz0]; exact Int.zero_mul _), (by first | exact NOx_v102_4 | exact k16_1)⟩⟩
    · refine r_tabIn hC (tgt := 59) (off := 55) dX0_fillAdds_4 (by omega) (by omega) (by rw [o2]; decide) (by decide) ?_
      refine r_aload_n hC dX0_fillAdds_59 0 rfl ?_
      refine r_aload_n hC dX0_fillAdds_60 2 rfl ?_
      refine r_geti hC 2 (ci := 4) rfl u4_in (by decide) mT_1_167 dX0_fillAdds_61 ka2 rfl rfl (fun x17_ e17 => ?_)
      have f17 : x17_.toInt = (I a2 2).toInt := by rw [e17]
      refine r_aload_n hC dX0_fillAdds_64 2 rfl ?_
      refine r_geti hC 3 (ci := 4) rfl u4_in (by decide) mT_1_169 dX0_fillAdds_65 ka2 rfl rfl (fun x18_ e18 => ?_)
      have f18 : x18_.toInt = (I a2 3).toInt := by rw [e18]
      refine r_aload_n hC dX0_fillAdds_68 3 rfl ?_
      refine r_callV hC (As := [.int x17_, .int x18_, .ref a3]) (rest := []) (ci := 0) (f_X0_fillByMean g (xL X) K len I J R hs a0 ka0 x17_ x18_ a3 ka3 na3 dr hdr kdr ldr L hL (by omega) (by have h9 := k9 (Or.inl (by omega)); have h8 := jm.2.1 (by omega); omega)) mT_3_180 mT_1_8 mT_3_177 mT_3_179 mP_29 okX0_fillByMean ⟨by decide, by decide⟩ rfl (by show kO (K a0) = _; rw [ka0]; rfl) rfl rfl (Nat.le_of_ble_eq_true rfl) ⟨by decide, by decide⟩ dX0_fillAdds_69 (aV1 (F := fun st M => P g X 6 72 [(0, .ref a0), (1, .ref a1), (2, .ref a2), (3, .ref a3), (4, .int x4)] st _ _ M) (M := (K, len, I, J, R)) fun I19 h19 => ?_)
      obtain ⟨hs19, hf19, k19_0, k19_1⟩ := h19
      show P g X 6 72 [(0, .ref a0), (1, .ref a1), (2, .ref a2), (3, .ref a3), (4, .int x4)] [] _ _ (K, len, I19, J, R)
      have hF19 : Fr K [(54, 999)] I I19 := hF.trans hf19 rfl rfl
      refine r_goto hC (tgt := 134) dX0_fillAdds_72 (by decide) ?_
      exact r_vret hC hQ hlk hr (by decide) (by decide) dX0_fillAdds_134 ⟨_, rfl, rfl, ⟨hs19, hF19, (by first | exact fun j hj => (NOx_v102_3 j (Nat.zero_le j) (by omega)).trans (Ad_d NOx_v102_2).symm | exact fun j hj => by rw [Ad_1 (by omega), k19_0 j hj, show D 8 s = x17_.toInt by omega, show D 0 1 = x18_.toInt by omega] | exact fun j hj => by rw [Ad_2 (by omega), k19_0 j hj, show D 8 s = x17_.toInt by omega, show D 9 s = x18_.toInt by (have h9 := k9 (Or.inl (by omega)); omega)] | exact fun j hj => by rw [Ad_5 (by omega) (by omega), k19_0 j hj, show D 8 s = x17_.toInt by omega] | exact fun j hj => by rw [Ad_5n (by omega) (by omega), k19_0 j hj, NOz0]; exact Int.zero_mul _), (by first | exact NOx_v102_4 | exact k19_1)⟩⟩
    · refine r_tabIn hC (tgt := 99) (off := 95) dX0_fillAdds_4 (by omega) (by omega) (by rw [o2]; decide) (by decide) ?_
      refine r_iconst hC (v := (0)) dX0_fillAdds_99 (by decide) (by decide) (fun x20_ e20 t20 => ?_)
      refine r_istore hC (lv' := [(5, .int x20_), (0, .ref a0), (1, .ref a1), (2, .ref a2), (3, .ref a3), (4, .int x4)]) dX0_fillAdds_100 (by decide) rfl ?_
      have LP21 : ∀ (mu : Nat) (x21_5 : Int32) (I21 : Nat → Nat → Int32) (hs21 : Sf K len I21 R) (hF21 : Fr K [(54, 999)] I I21) (v21_0 : 0 ≤ x21_5.toInt) (v21_1 : x21_5.toInt ≤ 60) (v21_2 : D 7 s ≠ 1 ∧ D 7 s ≠ 2 ∧ D 7 s ≠ 5) (v21_3 : ∀ j : Nat, 0 ≤ j → (j : Int) < x21_5.toInt → (I21 dr j).toInt = (fun j => D 8 s * L j / 100) j) (v21_4 : ∀ b k, b ≠ dr → I21 b k = I b k), (60 - x21_5.toInt).toNat = mu → P g X 6 102 [(0, .ref a0), (1, .ref a1), (2, .ref a2), (3, .ref a3), (4, .int x4), (5, .int x21_5)] [] 0 0 (K, len, I21, J, R) := by
        intro mu; induction mu using Nat.strongRecOn with | ind mu ih => ?_
        intro x21_5 I21 hs21 hF21 v21_0 v21_1 v21_2 v21_3 v21_4 hmu
        have ih21 := ih
        clear ih
        have hmu21 := hmu
        clear hmu
        refine r_iload hC dX0_fillAdds_102 5 rfl ?_
        refine r_bipush hC (v := (60)) dX0_fillAdds_104 (by decide) (by decide) (fun x22_ e22 t22 => ?_)
        refine r_icmp_ge hC (tgt := 134) dX0_fillAdds_106 (by decide) (fun c23 => ?_) (fun c23 => ?_)
        · exact r_vret hC hQ hlk hr (by decide) (by decide) dX0_fillAdds_134 ⟨_, rfl, rfl, ⟨hs21, hF21, (by first | exact fun j hj => (v21_3 j (Nat.zero_le j) (by omega)).trans (Ad_d v21_2).symm | exact fun j hj => by rw [Ad_1 (by omega), k0_0 j hj, show D 8 s = NOca0.toInt by omega, show D 0 1 = NOca1.toInt by omega] | exact fun j hj => by rw [Ad_2 (by omega), k0_0 j hj, show D 8 s = NOca0.toInt by omega, show D 9 s = NOca1.toInt by (have h9 := k9 (Or.inl (by omega)); omega)] | exact fun j hj => by rw [Ad_5 (by omega) (by omega), k0_0 j hj, show D 8 s = NOca0.toInt by omega] | exact fun j hj => by rw [Ad_5n (by omega) (by omega), k0_0 j hj, NOz0]; exact Int.zero_mul _), (by first | exact v21_4 | exact k0_1)⟩⟩
        · have k8c := hk8c I21 hF21
          refine r_aload_n hC dX0_fillAdds_109 0 rfl ?_
          refine r_getr hC 4 (ci := 0) rfl u0_in (by decide) mT_2_34 dX0_fillAdds_110 ka0 rfl rfl hdr ?_
          refine r_iload hC dX0_fillAdds_113 5 rfl ?_
          refine r_aload_n hC dX0_fillAdds_115 2 rfl ?_
          refine r_geti hC 2 (ci := 4) rfl u4_in (by decide) mT_1_167 dX0_fillAdds_116 ka2 rfl rfl (fun x24_ e24 => ?_)
          have f24 : x24_.toInt = (I21 a2 2).toInt := by rw [e24]
          refine r_aload_n hC dX0_fillAdds_119 3 rfl ?_
          refine r_iload hC dX0_fillAdds_120 5 rfl ?_
          refine x_iaload hC ka3 na3 (by decide) rfl rfl dX0_fillAdds_122 (by omega) (by omega) (fun x25_ e25 => ?_)
          have ql25 := hL x21_5.toInt.toNat (by omega)
          have qv25 : x25_.toInt = L x21_5.toInt.toNat := by rw [e25, hF21.get ka3 rfl, clx (i := x21_5) rfl (by omega)]; exact ql25.1
          refine r_imul hC dX0_fillAdds_123 (fun x26_ e26 => ?_)
          have mb26 := mul_b (a := x24_.toInt) (b := x25_.toInt) (A := 99) (B := 999) (C := 98901) (by decide) (by omega) (by omega) (by omega) (by omega)
          have tm26 : x26_.toInt = x24_.toInt * x25_.toInt := by rw [e26]; exact ti_mul rfl rfl (by omega) (by omega)
          refine r_bipush hC (v := (100)) dX0_fillAdds_124 (by decide) (by decide) (fun x27_ e27 t27 => ?_)
          refine r_idiv hC dX0_fillAdds_126 (ne_0 (by omega)) (fun x28_ e28 => ?_)
          have td28 : x28_.toInt = x26_.toInt / 100 := by rw [e28, ti_div (by omega) (by omega), show x27_.toInt = 100 by omega]
          have tf : x28_.toInt = D 8 s * L x21_5.toInt.toNat / 100 := by rw [show D 8 s = x24_.toInt by omega, show L x21_5.toInt.toNat = x25_.toInt by omega]; omega
          refine x_iastore hC kdr ldr (by decide) rfl rfl dX0_fillAdds_127 (by omega) (by omega) (fun I29 eI29 => ?_)
          have hs29 := hs21.put0 eI29 kdr (rng_arr (by decide) _) rfl (xF_arr (by decide) _) (by decide)
          have hF29 := hF21.put eI29 kdr (inS_arr rfl _)
          obtain ⟨x30_, e30⟩ : ∃ z : Int32, z = x21_5 + Int32.ofInt (1) := ⟨_, rfl⟩
          refine r_iinc hC (j := 5) (v := x30_) (lv' := [(5, .int x30_), (0, .ref a0), (1, .ref a1), (2, .ref a2), (3, .ref a3), (4, .int x4)]) dX0_fillAdds_128 rfl (by rw [e30]) (by decide) rfl ?_
          try have t30 : x30_.toInt = x21_5.toInt + (1) := by rw [e30]; exact (ti_add (b := Int32.ofInt (1)) (by show _ ≤ _ + (1 : Int); omega) (by show _ + (1 : Int) ≤ _; omega))
          refine r_goto hC (tgt := 102) dX0_fillAdds_131 (by decide) ?_
          refine r_sub [1, 2, 3, 4, 5, 0] rfl ?_
          exact ih21 ((60 - x30_.toInt).toNat) (by omega) x30_ I29 hs29 hF29 (by omega) (by omega) (by omega) (by first | exact all_0 (P := fun j => (I dr j).toInt = (fun j => D 8 s * L j / 100) j) (q := 0) (by omega) | exact fillf_s (f := (fun j => D 8 s * L j / 100)) (k := x21_5.toNatClampNeg) v21_3 eI29 (by have h9 := clampI (i := x21_5) (by omega); omega) (by rw [clx (i := x21_5) rfl (by omega)]; exact tf) (by omega)) (by first | exact fun b k hb => rfl | exact fill_o v21_4 eI29) rfl
      refine r_sub [1, 2, 3, 4, 5, 0] rfl ?_
      exact LP21 _ x20_ I hs hF (by omega) (by omega) (by omega) (by first | exact all_0 (P := fun j => (I dr j).toInt = (fun j => D 8 s * L j / 100) j) (q := 0) (by omega) | exact fillf_s (f := (fun j => D 8 s * L j / 100)) (k := x21_5.toNatClampNeg) v21_3 eI (by have h9 := clampI (i := x21_5) (by omega); omega) (by rw [clx (i := x21_5) rfl (by omega)]; exact tf) (by omega)) (by first | exact fun b k hb => rfl | exact fill_o v21_4 eI) rfl
    · refine r_tabIn hC (tgt := 99) (off := 95) dX0_fillAdds_4 (by omega) (by omega) (by rw [o2]; decide) (by decide) ?_
      refine r_iconst hC (v := (0)) dX0_fillAdds_99 (by decide) (by decide) (fun x31_ e31 t31 => ?_)
      refine r_istore hC (lv' := [(5, .int x31_), (0, .ref a0), (1, .ref a1), (2, .ref a2), (3, .ref a3), (4, .int x4)]) dX0_fillAdds_100 (by decide) rfl ?_
      have LP32 : ∀ (mu : Nat) (x32_5 : Int32) (I32 : Nat → Nat → Int32) (hs32 : Sf K len I32 R) (hF32 : Fr K [(54, 999)] I I32) (v32_0 : 0 ≤ x32_5.toInt) (v32_1 : x32_5.toInt ≤ 60) (v32_2 : D 7 s ≠ 1 ∧ D 7 s ≠ 2 ∧ D 7 s ≠ 5) (v32_3 : ∀ j : Nat, 0 ≤ j → (j : Int) < x32_5.toInt → (I32 dr j).toInt = (fun j => D 8 s * L j / 100) j) (v32_4 : ∀ b k, b ≠ dr → I32 b k = I b k), (60 - x32_5.toInt).toNat = mu → P g X 6 102 [(0, .ref a0), (1, .ref a1), (2, .ref a2), (3, .ref a3), (4, .int x4), (5, .int x32_5)] [] 0 0 (K, len, I32, J, R) := by
        intro mu; induction mu using Nat.strongRecOn with | ind mu ih => ?_
        intro x32_5 I32 hs32 hF32 v32_0 v32_1 v32_2 v32_3 v32_4 hmu
        have ih32 := ih
        clear ih
        have hmu32 := hmu
        clear hmu
        refine r_iload hC dX0_fillAdds_102 5 rfl ?_
        refine r_bipush hC (v := (60)) dX0_fillAdds_104 (by decide) (by decide) (fun x33_ e33 t33 => ?_)
        refine r_icmp_ge hC (tgt := 134) dX0_fillAdds_106 (by decide) (fun c34 => ?_) (fun c34 => ?_)
        · exact r_vret hC hQ hlk hr (by decide) (by decide) dX0_fillAdds_134 ⟨_, rfl, rfl, ⟨hs32, hF32, (by first | exact fun j hj => (v32_3 j (Nat.zero_le j) (by omega)).trans (Ad_d v32_2).symm | exact fun j hj => by rw [Ad_1 (by omega), k0_0 j hj, show D 8 s = NOca0.toInt by omega, show D 0 1 = NOca1.toInt by omega] | exact fun j hj => by rw [Ad_2 (by omega), k0_0 j hj, show D 8 s = NOca0.toInt by omega, show D 9 s = NOca1.toInt by (have h9 := k9 (Or.inl (by omega)); omega)] | exact fun j hj => by rw [Ad_5 (by omega) (by omega), k0_0 j hj, show D 8 s = NOca0.toInt by omega] | exact fun j hj => by rw [Ad_5n (by omega) (by omega), k0_0 j hj, NOz0]; exact Int.zero_mul _), (by first | exact v32_4 | exact k0_1)⟩⟩
        · have k8c := hk8c I32 hF32
          refine r_aload_n hC dX0_fillAdds_109 0 rfl ?_
          refine r_getr hC 4 (ci := 0) rfl u0_in (by decide) mT_2_34 dX0_fillAdds_110 ka0 rfl rfl hdr ?_
          refine r_iload hC dX0_fillAdds_113 5 rfl ?_
          refine r_aload_n hC dX0_fillAdds_115 2 rfl ?_
          refine r_geti hC 2 (ci := 4) rfl u4_in (by decide) mT_1_167 dX0_fillAdds_116 ka2 rfl rfl (fun x35_ e35 => ?_)
          have f35 : x35_.toInt = (I32 a2 2).toInt := by rw [e35]
          refine r_aload_n hC dX0_fillAdds_119 3 rfl ?_
          refine r_iload hC dX0_fillAdds_120 5 rfl ?_
          refine x_iaload hC ka3 na3 (by decide) rfl rfl dX0_fillAdds_122 (by omega) (by omega) (fun x36_ e36 => ?_)
          have ql36 := hL x32_5.toInt.toNat (by omega)
          have qv36 : x36_.toInt = L x32_5.toInt.toNat := by rw [e36, hF32.get ka3 rfl, clx (i := x32_5) rfl (by omega)]; exact ql36.1
          refine r_imul hC dX0_fillAdds_123 (fun x37_ e37 => ?_)
          have mb37 := mul_b (a := x35_.toInt) (b := x36_.toInt) (A := 99) (B := 999) (C := 98901) (by decide) (by omega) (by omega) (by omega) (by omega)
          have tm37 : x37_.toInt = x35_.toInt * x36_.toInt := by rw [e37]; exact ti_mul rfl rfl (by omega) (by omega)
          refine r_bipush hC (v := (100)) dX0_fillAdds_124 (by decide) (by decide) (fun x38_ e38 t38 => ?_)
          refine r_idiv hC dX0_fillAdds_126 (ne_0 (by omega)) (fun x39_ e39 => ?_)
          have td39 : x39_.toInt = x37_.toInt / 100 := by rw [e39, ti_div (by omega) (by omega), show x38_.toInt = 100 by omega]
          have tf : x39_.toInt = D 8 s * L x32_5.toInt.toNat / 100 := by rw [show D 8 s = x35_.toInt by omega, show L x32_5.toInt.toNat = x36_.toInt by omega]; omega
          refine x_iastore hC kdr ldr (by decide) rfl rfl dX0_fillAdds_127 (by omega) (by omega) (fun I40 eI40 => ?_)
          have hs40 := hs32.put0 eI40 kdr (rng_arr (by decide) _) rfl (xF_arr (by decide) _) (by decide)
          have hF40 := hF32.put eI40 kdr (inS_arr rfl _)
          obtain ⟨x41_, e41⟩ : ∃ z : Int32, z = x32_5 + Int32.ofInt (1) := ⟨_, rfl⟩
          refine r_iinc hC (j := 5) (v := x41_) (lv' := [(5, .int x41_), (0, .ref a0), (1, .ref a1), (2, .ref a2), (3, .ref a3), (4, .int x4)]) dX0_fillAdds_128 rfl (by rw [e41]) (by decide) rfl ?_
          try have t41 : x41_.toInt = x32_5.toInt + (1) := by rw [e41]; exact (ti_add (b := Int32.ofInt (1)) (by show _ ≤ _ + (1 : Int); omega) (by show _ + (1 : Int) ≤ _; omega))
          refine r_goto hC (tgt := 102) dX0_fillAdds_131 (by decide) ?_
          refine r_sub [1, 2, 3, 4, 5, 0] rfl ?_
          exact ih32 ((60 - x41_.toInt).toNat) (by omega) x41_ I40 hs40 hF40 (by omega) (by omega) (by omega) (by first | exact all_0 (P := fun j => (I dr j).toInt = (fun j => D 8 s * L j / 100) j) (q := 0) (by omega) | exact fillf_s (f := (fun j => D 8 s * L j / 100)) (k := x32_5.toNatClampNeg) v32_3 eI40 (by have h9 := clampI (i := x32_5) (by omega); omega) (by rw [clx (i := x32_5) rfl (by omega)]; exact tf) (by omega)) (by first | exact fun b k hb => rfl | exact fill_o v32_4 eI40) rfl
      refine r_sub [1, 2, 3, 4, 5, 0] rfl ?_
      exact LP32 _ x31_ I hs hF (by omega) (by omega) (by omega) (by first | exact all_0 (P := fun j => (I dr j).toInt = (fun j => D 8 s * L j / 100) j) (q := 0) (by omega) | exact fillf_s (f := (fun j => D 8 s * L j / 100)) (k := x32_5.toNatClampNeg) v32_3 eI (by have h9 := clampI (i := x32_5) (by omega); omega) (by rw [clx (i := x32_5) rfl (by omega)]; exact tf) (by omega)) (by first | exact fun b k hb => rfl | exact fill_o v32_4 eI) rfl
    · refine r_tabIn hC (tgt := 75) (off := 71) dX0_fillAdds_4 (by omega) (by omega) (by rw [o2]; decide) (by decide) ?_
      refine r_aload_n hC dX0_fillAdds_75 0 rfl ?_
      refine r_iload hC dX0_fillAdds_76 4 rfl ?_
      refine r_if_eq hC (tgt := 88) dX0_fillAdds_78 (by decide) (fun c42 => ?_) (fun c42 => ?_)
      · refine r_iconst hC (v := (0)) dX0_fillAdds_88 (by decide) (by decide) (fun x43_ e43 t43 => ?_)
        refine r_aload_n hC dX0_fillAdds_89 1 rfl ?_
        refine r_getr hC 5 (ci := 1) rfl u1_in (by decide) mT_1_199 dX0_fillAdds_90 ka1 rfl rfl hrr ?_
        refine r_callV hC (As := [.int x43_, .ref rr]) (rest := []) (ci := 0) (f_X0_fillByRain g (xL X) K len I J R hs a0 ka0 x43_ rr krr lrr dr hdr kdr ldr (D 5) (fun j hj => ⟨hrn j hj, hJ.rn h6 j⟩) (by omega)) mT_3_185 mT_1_8 mT_3_182 mT_3_184 mP_30 okX0_fillByRain ⟨by decide, by decide⟩ rfl (by show kO (K a0) = _; rw [ka0]; rfl) rfl rfl (Nat.le_of_ble_eq_true rfl) ⟨by decide, by decide⟩ dX0_fillAdds_93 (aV1 (F := fun st M => P g X 6 96 [(0, .ref a0), (1, .ref a1), (2, .ref a2), (3, .ref a3), (4, .int x4)] st _ _ M) (M := (K, len, I, J, R)) fun I44 h44 => ?_)
        obtain ⟨hs44, hf44, k44_0, k44_1⟩ := h44
        show P g X 6 96 [(0, .ref a0), (1, .ref a1), (2, .ref a2), (3, .ref a3), (4, .int x4)] [] _ _ (K, len, I44, J, R)
        have hF44 : Fr K [(54, 999)] I I44 := hF.trans hf44 rfl rfl
        refine r_goto hC (tgt := 134) dX0_fillAdds_96 (by decide) ?_
        exact r_vret hC hQ hlk hr (by decide) (by decide) dX0_fillAdds_134 ⟨_, rfl, rfl, ⟨hs44, hF44, (by first | exact fun j hj => (NOx_v102_3 j (Nat.zero_le j) (by omega)).trans (Ad_d NOx_v102_2).symm | exact fun j hj => by rw [Ad_1 (by omega), k44_0 j hj, show D 8 s = x43_.toInt by omega, show D 0 1 = NOca1.toInt by omega] | exact fun j hj => by rw [Ad_2 (by omega), k44_0 j hj, show D 8 s = x43_.toInt by omega, show D 9 s = NOca1.toInt by (have h9 := k9 (Or.inl (by omega)); omega)] | exact fun j hj => by rw [Ad_5 (by omega) (by omega), k44_0 j hj, show D 8 s = x43_.toInt by omega] | exact fun j hj => by rw [Ad_5n (by omega) (by omega), k44_0 j hj, show x43_.toInt = 0 by omega]; exact Int.zero_mul _), (by first | exact NOx_v102_4 | exact k44_1)⟩⟩
      · refine r_aload_n hC dX0_fillAdds_81 2 rfl ?_
        refine r_geti hC 2 (ci := 4) rfl u4_in (by decide) mT_1_167 dX0_fillAdds_82 ka2 rfl rfl (fun x45_ e45 => ?_)
        have f45 : x45_.toInt = (I a2 2).toInt := by rw [e45]
        refine r_goto hC (tgt := 89) dX0_fillAdds_85 (by decide) ?_
        refine r_aload_n hC dX0_fillAdds_89 1 rfl ?_
        refine r_getr hC 5 (ci := 1) rfl u1_in (by decide) mT_1_199 dX0_fillAdds_90 ka1 rfl rfl hrr ?_
        refine r_callV hC (As := [.int x45_, .ref rr]) (rest := []) (ci := 0) (f_X0_fillByRain g (xL X) K len I J R hs a0 ka0 x45_ rr krr lrr dr hdr kdr ldr (D 5) (fun j hj => ⟨hrn j hj, hJ.rn h6 j⟩) (by omega)) mT_3_185 mT_1_8 mT_3_182 mT_3_184 mP_30 okX0_fillByRain ⟨by decide, by decide⟩ rfl (by show kO (K a0) = _; rw [ka0]; rfl) rfl rfl (Nat.le_of_ble_eq_true rfl) ⟨by decide, by decide⟩ dX0_fillAdds_93 (aV1 (F := fun st M => P g X 6 96 [(0, .ref a0), (1, .ref a1), (2, .ref a2), (3, .ref a3), (4, .int x4)] st _ _ M) (M := (K, len, I, J, R)) fun I46 h46 => ?_)
        obtain ⟨hs46, hf46, k46_0, k46_1⟩ := h46
        show P g X 6 96 [(0, .ref a0), (1, .ref a1), (2, .ref a2), (3, .ref a3), (4, .int x4)] [] _ _ (K, len, I46, J, R)
        have hF46 : Fr K [(54, 999)] I I46 := hF.trans hf46 rfl rfl
        refine r_goto hC (tgt := 134) dX0_fillAdds_96 (by decide) ?_
        exact r_vret hC hQ hlk hr (by decide) (by decide) dX0_fillAdds_134 ⟨_, rfl, rfl, ⟨hs46, hF46, (by first | exact fun j hj => (NOx_v102_3 j (Nat.zero_le j) (by omega)).trans (Ad_d NOx_v102_2).symm | exact fun j hj => by rw [Ad_1 (by omega), k46_0 j hj, show D 8 s = x45_.toInt by omega, show D 0 1 = NOca1.toInt by omega] | exact fun j hj => by rw [Ad_2 (by omega), k46_0 j hj, show D 8 s = x45_.toInt by omega, show D 9 s = NOca1.toInt by (have h9 := k9 (Or.inl (by omega)); omega)] | exact fun j hj => by rw [Ad_5 (by omega) (by omega), k46_0 j hj, show D 8 s = x45_.toInt by omega] | exact fun j hj => by rw [Ad_5n (by omega) (by omega), k46_0 j hj, show x45_.toInt = 0 by omega]; exact Int.zero_mul _), (by first | exact NOx_v102_4 | exact k46_1)⟩⟩

