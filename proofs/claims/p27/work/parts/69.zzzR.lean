def Fb (D : DD) (E : Nat → Nat → Int) (N j : Nat) : Int := if 59 < Mf D E j N then 1 else 0
def Fi (D : DD) (E : Nat → Nat → Int) (N : Nat) (dep : Int) (j : Nat) : Int := if 59 < Mf D E j N then fnd (D 7 j) (D 8 j) dep else -1
def Sw (D : DD) (f : Nat → Int) (w : Int) : Nat → Int
  | 0 => 0
  | t + 1 => Sw D f w t + (if f t = w then D 6 t else 0)
def Al (D : DD) (E : Nat → Nat → Int) (N : Nat) (dep : Int) (s : Nat) : Nat → Int
  | 0 => 0
  | t + 1 => Al D E N dep s t + (if 59 < Mf D E t N ∧ fnd (D 7 s) (D 8 s) dep = fnd (D 7 t) (D 8 t) dep then D 6 t else 0)
def Gr (D : DD) (E : Nat → Nat → Int) (N : Nat) (dep : Int) : Nat → Int
  | 0 => 0
  | s + 1 => if 59 < Mf D E s N then max (Gr D E N dep s) (Al D E N dep s (D 0 7).toNat) else Gr D E N dep s
def Gx (D : DD) (E : Nat → Nat → Int) (N : Nat) (dep : Int) : Int := Gr D E N dep (D 0 7).toNat
def Bs (D : DD) (E : Nat → Nat → Int) (N : Nat) : Nat → Int
  | 0 => 0
  | d + 1 => if Gx D E N ((d : Int) + 1) < Gx D E N (Bs D E N d) then (d : Int) + 1 else Bs D E N d
section BORE
variable {D : DD} {E : Nat → Nat → Int} {N s t n : Nat} {dep w i : Int} {f : Nat → Int}
theorem Fb_t (h : 59 < Mf D E s N) : Fb D E N s = 1 := by unfold Fb; rw [if_pos h]
theorem Fb_n (h : ¬ 59 < Mf D E s N) : Fb D E N s = 0 := by unfold Fb; rw [if_neg h]
theorem Fi_t (h : 59 < Mf D E s N) : Fi D E N dep s = fnd (D 7 s) (D 8 s) dep := by unfold Fi; rw [if_pos h]
theorem Fi_n (h : ¬ 59 < Mf D E s N) : Fi D E N dep s = -1 := by unfold Fi; rw [if_neg h]
theorem Sw_t (h : f t = w) : Sw D f w (t + 1) = Sw D f w t + D 6 t := by simp only [Sw]; rw [if_pos h]
theorem Sw_n (h : f t ≠ w) : Sw D f w (t + 1) = Sw D f w t := by simp only [Sw]; rw [if_neg h]; omega
theorem Al_t (h : 59 < Mf D E t N ∧ fnd (D 7 s) (D 8 s) dep = fnd (D 7 t) (D 8 t) dep) : Al D E N dep s (t + 1) = Al D E N dep s t + D 6 t := by simp only [Al]; rw [if_pos h]
theorem Al_n (h : ¬ (59 < Mf D E t N ∧ fnd (D 7 s) (D 8 s) dep = fnd (D 7 t) (D 8 t) dep)) : Al D E N dep s (t + 1) = Al D E N dep s t := by simp only [Al]; rw [if_neg h]; omega
theorem Gr_t (h : 59 < Mf D E s N) : Gr D E N dep (s + 1) = max (Gr D E N dep s) (Al D E N dep s (D 0 7).toNat) := by simp only [Gr]; rw [if_pos h]
theorem Gr_n (h : ¬ 59 < Mf D E s N) : Gr D E N dep (s + 1) = Gr D E N dep s := by simp only [Gr]; rw [if_neg h]
theorem Bs_t (hi : (n : Int) + 1 = i) (h : Gx D E N i < Gx D E N (Bs D E N n)) : Bs D E N (n + 1) = i := by subst hi; simp only [Bs]; rw [if_pos h]
theorem Bs_n (hi : (n : Int) + 1 = i) (h : ¬ Gx D E N i < Gx D E N (Bs D E N n)) : Bs D E N (n + 1) = Bs D E N n := by subst hi; simp only [Bs]; rw [if_neg h]
theorem o32 {c : Int} (h1 : -2147483648 ≤ c) (h2 : c ≤ 2147483647) : (Int32.ofInt c).toInt = c := by rw [Int32.toInt_ofInt, show Int32.size = 4294967296 from rfl, Int.bmod_eq_of_le (by omega) (by omega)]
theorem fnd_nn {kd k d : Int} (hk : 0 ≤ k ∧ k ≤ 99) (hd : 0 ≤ d ∧ d ≤ 99) : 0 ≤ fnd kd k d := by
  unfold fnd
  split
  · split <;> decide
  · split
    · have m := mul_b (a := k) (b := d) (A := 99) (B := 99) (C := 9801) (by decide) hk.1 hk.2 hd.1 hd.2
      have h1 : (Int32.ofInt k * Int32.ofInt d).toInt = k * d := ti_mul (o32 (by omega) (by omega)) (o32 (by omega) (by omega)) (by omega) (by omega)
      have h2 : (Int32.ofInt 10).toInt = 10 := rfl
      rw [ti_div (by rw [h1]; exact m.1) (by rw [h2]; decide), h1, h2]; omega
    · split
      · split <;> decide
      · split
        · split <;> decide
        · decide
theorem Al_w (hJ : DJ D) (hd : 0 ≤ dep ∧ dep ≤ 99) (h : 59 < Mf D E s N) : ∀ n, Sw D (Fi D E N dep) (Fi D E N dep s) n = Al D E N dep s n
  | 0 => rfl
  | n + 1 => by
    have h1 := Al_w hJ hd h n
    have h2 := fnd_nn (kd := D 7 s) (hJ.k8 s) hd
    by_cases c : 59 < Mf D E n N ∧ fnd (D 7 s) (D 8 s) dep = fnd (D 7 n) (D 8 n) dep
    · rw [Al_t c, Sw_t (by rw [Fi_t c.1, Fi_t h]; exact c.2.symm), h1]
    · rw [Al_n c, Sw_n ?_, h1]
      rw [Fi_t h]
      by_cases c2 : 59 < Mf D E n N
      · rw [Fi_t c2]; exact fun z => c ⟨c2, z.symm⟩
      · rw [Fi_n c2]; omega
theorem Al_b (hJ : DJ D) : ∀ n : Nat, 0 ≤ Al D E N dep s n ∧ Al D E N dep s n ≤ 99 * n
  | 0 => by simp only [Al]; decide
  | n + 1 => by
    have h1 := Al_b hJ n
    have h2 : 0 ≤ D 6 n ∧ D 6 n ≤ 99 := hJ.2.2.2.1 6 n (by decide) (by decide) (by decide)
    have e : ((n + 1 : Nat) : Int) = n + 1 := by omega
    rw [e]; simp only [Al]; split <;> omega
theorem Gr_0 (hJ : DJ D) : ∀ n : Nat, 0 ≤ Gr D E N dep n
  | 0 => by simp only [Gr]; decide
  | n + 1 => by
    have h1 := Gr_0 hJ n
    simp only [Gr]; split <;> omega
end BORE
set_option maxHeartbeats 4000000 in
set_option maxRecDepth 100000 in
theorem f_X8_weightFinding (g : GG) (l : Launch) (K len : Nat → Nat) (I : Nat → Nat → Int32) (J : Nat → Nat → Int64) (R : Nat → Nat → Option Nat) (hs : Sf K len I R) (a0 : Nat) (ka0 : K a0 = 9) (x1 : Int32) (h : Nat) (hh : R a0 2 = some h) (kh : K h = 2) (lk : Nat) (hlk2 : R h 0 = some lk) (klk : K lk = 3) (rd : Nat) (hrd : R a0 9 = some rd) (krd : K rd = 4) (lv : Nat) (hlv : R a0 4 = some lv) (klv : K lv = 41) (llv : len lv = 60) (kn : Nat) (hkn : R a0 6 = some kn) (kkn : K kn = 43) (lkn : len kn = 6) (cr : Nat) (hcr : R a0 5 = some cr) (kcr1 : K cr = 44) (lcr : len cr = 6) (hu : UU K R) (D : DD) (E : Nat → Nat → Int) (hc : KC D E a0 h lk rd I R) (fn : Nat) (hfn : R a0 11 = some fn) (kfn : K fn = 68) (lfn : len fn = 6) (fi : Nat → Int) (hfi : ∀ j : Nat, (j : Int) < D 0 7 → (I fn j).toInt = fi j) : Ct g l yX8_weightFinding cX8_weightFinding 4 (Option.some Jvm.ClassFile.FieldType.int) rmX8_weightFinding [.ref a0, .int x1] (K, len, I, J, R) (pI0 (K, len, I, J, R) (fun r => (r.toInt = Sw D fi x1.toInt (D 0 7).toNat) ∧ (0 ≤ r.toInt ∧ r.toInt ≤ 600))) := by
  refine Ct_intro (by decide +kernel) (Nat.le_of_ble_eq_true rfl) (fun X hC hL hKK hNm hr hlk hQ => ?_)
  subst hL
  have hC : Cx g X cX8_weightFinding "HillTap" 4 rmX8_weightFinding := hC
  show P g X 4 0 [(0, .ref a0), (1, .int x1)] [] 0 0 (K, len, I, J, R)
  have hF : Fr K [] I I := Fr.refl
  have ka : KA a0 h lk rd K len R := ⟨⟨_, hs⟩, hu, ka0, kh, klk, krd⟩
  obtain ⟨sd1, sd2, sd3, sd4, sd5, sd7, sd8, sd9⟩ := id hc.2.1
  have d7b := hs.rng kh (k := 6) rfl (x := I h 6) rfl
  have d5b := hs.rng kh (k := 1) rfl (x := I h 1) rfl
  have d8b := hs.rng kh (k := 8) rfl (x := I h 8) rfl
  have b_x1 := ti_rng x1
  refine r_iconst hC (v := (0)) dX8_weightFinding_0 (by decide) (by decide) (fun x1_ e1 t1 => ?_)
  refine r_istore_n hC (lv' := [(2, .int x1_), (0, .ref a0), (1, .int x1)]) dX8_weightFinding_1 (by decide) rfl ?_
  refine r_iconst hC (v := (0)) dX8_weightFinding_2 (by decide) (by decide) (fun x2_ e2 t2 => ?_)
  refine r_istore_n hC (lv' := [(3, .int x2_), (2, .int x1_), (0, .ref a0), (1, .int x1)]) dX8_weightFinding_3 (by decide) rfl ?_
  have LP3 : ∀ (mu : Nat) (x3_3 : Int32) (x3_2 : Int32) (v3_0 : 0 ≤ x3_3.toInt) (v3_1 : x3_3.toInt ≤ D 0 7) (v3_2 : x3_2.toInt = Sw D fi x1.toInt x3_3.toInt.toNat) (v3_3 : 0 ≤ x3_2.toInt ∧ x3_2.toInt ≤ 99 * x3_3.toInt), (6 - x3_3.toInt).toNat = mu → P g X 4 4 [(0, .ref a0), (1, .int x1), (2, .int x3_2), (3, .int x3_3)] [] 0 0 (K, len, I, J, R) := by
    intro mu; induction mu using Nat.strongRecOn with | ind mu ih => ?_
    intro x3_3 x3_2 v3_0 v3_1 v3_2 v3_3 hmu
    have ih3 := ih
    clear ih
    have hmu3 := hmu
    clear hmu
    refine r_iload_n hC dX8_weightFinding_4 3 rfl ?_
    refine r_aload_n hC dX8_weightFinding_5 0 rfl ?_
    refine r_getr hC 2 (ci := 8) rfl u8_in (by decide) mT_2_80 dX8_weightFinding_6 ka0 rfl rfl hh ?_
    refine r_geti hC 6 (ci := 1) rfl u1_in (by decide) mT_1_202 dX8_weightFinding_9 kh rfl rfl (fun x4_ e4 => ?_)
    have r4 := hs.rng kh rfl e4
    have f4 : x4_.toInt = (I h 6).toInt := by rw [e4]
    have sc4 : x4_.toInt = D 0 7 := by rw [e4]; exact hc.2.1.2.2.2.2.2.1
    refine r_icmp_ge hC (tgt := 46) dX8_weightFinding_12 (by decide) (fun c5 => ?_) (fun c5 => ?_)
    · refine r_iload_n hC dX8_weightFinding_46 2 rfl ?_
      exact r_iret hC hQ hlk hr rfl (by decide) (by decide) dX8_weightFinding_47 ⟨_, rfl, rfl, ⟨(by rw [show (D 0 7).toNat = x3_3.toInt.toNat by omega]; exact v3_2), (by omega)⟩⟩
    · refine r_aload_n hC dX8_weightFinding_15 0 rfl ?_
      refine r_getr hC 11 (ci := 8) rfl u8_in (by decide) mT_2_89 dX8_weightFinding_16 ka0 rfl rfl hfn ?_
      refine r_iload_n hC dX8_weightFinding_19 3 rfl ?_
      refine x_iaload hC kfn lfn (by decide) rfl rfl dX8_weightFinding_20 (by omega) (by omega) (fun x6_ e6 => ?_)
      have q6 : x6_.toInt = fi x3_3.toInt.toNat := by rw [e6, clx (i := x3_3) rfl (by omega)]; exact hfi _ (by omega)
      refine r_iload_n hC dX8_weightFinding_21 1 rfl ?_
      refine r_icmp_ne hC (tgt := 40) dX8_weightFinding_22 (by decide) (fun c7 => ?_) (fun c7 => ?_)
      · obtain ⟨x8_, e8⟩ : ∃ z : Int32, z = x3_3 + Int32.ofInt (1) := ⟨_, rfl⟩
        refine r_iinc hC (j := 3) (v := x8_) (lv' := [(3, .int x8_), (0, .ref a0), (1, .int x1), (2, .int x3_2)]) dX8_weightFinding_40 rfl (by rw [e8]) (by decide) rfl ?_
        try have t8 : x8_.toInt = x3_3.toInt + (1) := by rw [e8]; exact (ti_add (b := Int32.ofInt (1)) (by show _ ≤ _ + (1 : Int); omega) (by show _ + (1 : Int) ≤ _; omega))
        refine r_goto hC (tgt := 4) dX8_weightFinding_43 (by decide) ?_
        refine r_sub [1, 2, 3, 0] rfl ?_
        exact ih3 ((6 - x8_.toInt).toNat) (by omega) x8_ x3_2 (by omega) (by omega) (by first | (rw [show x8_.toInt.toNat = 0 by omega]; show _ = (0 : Int); omega) | (rw [show x8_.toInt.toNat = x3_3.toInt.toNat + 1 by omega, Sw_t (by omega)]; omega) | (rw [show x8_.toInt.toNat = x3_3.toInt.toNat + 1 by omega, Sw_n (by omega)]; omega)) (by omega) rfl
      · refine r_iload_n hC dX8_weightFinding_25 2 rfl ?_
        refine r_aload_n hC dX8_weightFinding_26 0 rfl ?_
        refine r_getr hC 2 (ci := 8) rfl u8_in (by decide) mT_2_80 dX8_weightFinding_27 ka0 rfl rfl hh ?_
        obtain ⟨a9_, hb9, hk9, hn9⟩ := hs.row kh 7 45 6 (by decide) (by decide)
        refine r_getr hC 7 (ci := 1) rfl u1_in (by decide) mT_1_205 dX8_weightFinding_30 kh rfl rfl hb9 ?_
        refine r_iload_n hC dX8_weightFinding_33 3 rfl ?_
        obtain ⟨a10_, hb10, hk10⟩ := hs.sto hk9 (i := x3_3) (by omega) (by omega)
        refine x_aaload (C := "HillTap$Story") hC hk9 hn9 (by decide) rfl (by decide) dX8_weightFinding_34 (by omega) (by omega) hb10 ?_
        refine r_geti hC 0 (ci := 4) rfl u4_in (by decide) mT_1_161 dX8_weightFinding_35 hk10 rfl rfl (fun x11_ e11 => ?_)
        have f11 : x11_.toInt = (I a10_ 0).toInt := by rw [e11]
        have q11 : x11_.toInt = D 6 x3_3.toInt.toNat := by rw [e11]; exact (hc.sto hb9 (by rw [← clx (i := x3_3) rfl (by omega)]; exact hb10) (by omega) (by omega)).1
        have jb11 : 0 ≤ D 6 x3_3.toInt.toNat ∧ D 6 x3_3.toInt.toNat ≤ 99 := ((hc.2.2.1 (by omega)).1).2.2.2.1 6 _ (by decide) (by decide) (by decide)
        refine r_iadd hC dX8_weightFinding_38 (fun x12_ e12 => ?_)
        try have t12 : x12_.toInt = x3_2.toInt + x11_.toInt := by rw [e12]; exact ti_add (by omega) (by omega)
        refine r_istore_n hC (lv' := [(2, .int x12_), (0, .ref a0), (1, .int x1), (3, .int x3_3)]) dX8_weightFinding_39 (by decide) rfl ?_
        obtain ⟨x13_, e13⟩ : ∃ z : Int32, z = x3_3 + Int32.ofInt (1) := ⟨_, rfl⟩
        refine r_iinc hC (j := 3) (v := x13_) (lv' := [(3, .int x13_), (2, .int x12_), (0, .ref a0), (1, .int x1)]) dX8_weightFinding_40 rfl (by rw [e13]) (by decide) rfl ?_
        try have t13 : x13_.toInt = x3_3.toInt + (1) := by rw [e13]; exact (ti_add (b := Int32.ofInt (1)) (by show _ ≤ _ + (1 : Int); omega) (by show _ + (1 : Int) ≤ _; omega))
        refine r_goto hC (tgt := 4) dX8_weightFinding_43 (by decide) ?_
        refine r_sub [2, 3, 1, 0] rfl ?_
        exact ih3 ((6 - x13_.toInt).toNat) (by omega) x13_ x12_ (by omega) (by omega) (by first | (rw [show x13_.toInt.toNat = 0 by omega]; show _ = (0 : Int); omega) | (rw [show x13_.toInt.toNat = x3_3.toInt.toNat + 1 by omega, Sw_t (by omega)]; omega) | (rw [show x13_.toInt.toNat = x3_3.toInt.toNat + 1 by omega, Sw_n (by omega)]; omega)) (by omega) rfl
  refine r_sub [2, 3, 1, 0] rfl ?_
  exact LP3 _ x2_ x1_ (by omega) (by omega) (by first | (rw [show x2_.toInt.toNat = 0 by omega]; show _ = (0 : Int); omega) | (rw [show x2_.toInt.toNat = x3_3.toInt.toNat + 1 by omega, Sw_t (by omega)]; omega) | (rw [show x2_.toInt.toNat = x3_3.toInt.toNat + 1 by omega, Sw_n (by omega)]; omega)) (by omega) rfl
set_option maxHeartbeats 4000000 in
set_option maxRecDepth 100000 in
theorem f_X8_greatestAlike (g : GG) (l : Launch) (K len : Nat → Nat) (I : Nat → Nat → Int32) (J : Nat → Nat → Int64) (R : Nat → Nat → Option Nat) (hs : Sf K len I R) (a0 : Nat) (ka0 : K a0 = 9) (x1 : Int32) (h : Nat) (hh : R a0 2 = some h) (kh : K h = 2) (lk : Nat) (hlk2 : R h 0 = some lk) (klk : K lk = 3) (rd : Nat) (hrd : R a0 9 = some rd) (krd : K rd = 4) (lv : Nat) (hlv : R a0 4 = some lv) (klv : K lv = 41) (llv : len lv = 60) (kn : Nat) (hkn : R a0 6 = some kn) (kkn : K kn = 43) (lkn : len kn = 6) (cr : Nat) (hcr : R a0 5 = some cr) (kcr1 : K cr = 44) (lcr : len cr = 6) (hu : UU K R) (D : DD) (E : Nat → Nat → Int) (hc : KC D E a0 h lk rd I R) (N : Nat) (hN : (I rd 0).toInt = N) (mf : Nat) (hmf : R a0 10 = some mf) (kmf : K mf = 67) (lmf : len mf = 6) (mff : ∀ j : Nat, (j : Int) < D 0 7 → (I mf j).toInt = Mf D E j N) (fn : Nat) (hfn : R a0 11 = some fn) (kfn : K fn = 68) (lfn : len fn = 6) (p0 : 0 ≤ x1.toInt ∧ x1.toInt ≤ 99) (p1 : 1 ≤ D 0 7) : Ct g l yX8_greatestAlike cX8_greatestAlike 4 (Option.some Jvm.ClassFile.FieldType.int) rmX8_greatestAlike [.ref a0, .int x1] (K, len, I, J, R) (pI1 (K, len, I, J, R) (fun r I' => Sf K len I' R ∧ Fr K [(68, 999)] I I' ∧ (KC D E a0 h lk rd I' R) ∧ (r.toInt = Gx D E N x1.toInt))) := by
  refine Ct_intro (by decide +kernel) (Nat.le_of_ble_eq_true rfl) (fun X hC hL hKK hNm hr hlk hQ => ?_)
  subst hL
  have hC : Cx g X cX8_greatestAlike "HillTap" 4 rmX8_greatestAlike := hC
  show P g X 4 0 [(0, .ref a0), (1, .int x1)] [] 0 0 (K, len, I, J, R)
  have hF : Fr K [(68, 999)] I I := Fr.refl
  have ka : KA a0 h lk rd K len R := ⟨⟨_, hs⟩, hu, ka0, kh, klk, krd⟩
  obtain ⟨sd1, sd2, sd3, sd4, sd5, sd7, sd8, sd9⟩ := id hc.2.1
  have d7b := hs.rng kh (k := 6) rfl (x := I h 6) rfl
  have d5b := hs.rng kh (k := 1) rfl (x := I h 1) rfl
  have d8b := hs.rng kh (k := 8) rfl (x := I h 8) rfl
  have mfb : ∀ s, 0 ≤ Mf D E s N ∧ Mf D E s N ≤ 60 := fun s => Mf_b (fun j hj => (hc.rdb (by omega)).2.1)
  have b_x1 := ti_rng x1
  refine r_iconst hC (v := (0)) dX8_greatestAlike_0 (by decide) (by decide) (fun x1_ e1 t1 => ?_)
  refine r_istore_n hC (lv' := [(2, .int x1_), (0, .ref a0), (1, .int x1)]) dX8_greatestAlike_1 (by decide) rfl ?_
  have LP2 : ∀ (mu : Nat) (x2_2 : Int32) (I2 : Nat → Nat → Int32) (hs2 : Sf K len I2 R) (hF2 : Fr K [(68, 999)] I I2) (v2_0 : 0 ≤ x2_2.toInt) (v2_1 : x2_2.toInt ≤ D 0 7) (v2_2 : ∀ j : Nat, 0 ≤ j → (j : Int) < x2_2.toInt → (I2 fn j).toInt = (Fi D E N x1.toInt) j) (v2_3 : ∀ j : Nat, (j : Int) < D 0 7 → (I2 mf j).toInt = Mf D E j N) (v2_4 : KC D E a0 h lk rd I2 R), (6 - x2_2.toInt).toNat = mu → P g X 4 2 [(0, .ref a0), (1, .int x1), (2, .int x2_2)] [] 0 0 (K, len, I2, J, R) := by
    intro mu; induction mu using Nat.strongRecOn with | ind mu ih => ?_
    intro x2_2 I2 hs2 hF2 v2_0 v2_1 v2_2 v2_3 v2_4 hmu
    have ih2 := ih
    clear ih
    have hmu2 := hmu
    clear hmu
    refine r_iload_n hC dX8_greatestAlike_2 2 rfl ?_
    refine r_aload_n hC dX8_greatestAlike_3 0 rfl ?_
    refine r_getr hC 2 (ci := 8) rfl u8_in (by decide) mT_2_80 dX8_greatestAlike_4 ka0 rfl rfl hh ?_
    refine r_geti hC 6 (ci := 1) rfl u1_in (by decide) mT_1_202 dX8_greatestAlike_7 kh rfl rfl (fun x3_ e3 => ?_)
    have r3 := hs2.rng kh rfl e3
    have f3 : x3_.toInt = (I2 h 6).toInt := by rw [e3]
    have sc3 : x3_.toInt = D 0 7 := by rw [e3]; exact v2_4.2.1.2.2.2.2.2.1
    refine r_icmp_ge hC (tgt := 50) dX8_greatestAlike_10 (by decide) (fun c4 => ?_) (fun c4 => ?_)
    · have fia : ∀ j : Nat, (j : Int) < D 0 7 → (I2 fn j).toInt = Fi D E N x1.toInt j := fun j hj => v2_2 j (Nat.zero_le j) (by omega)
      have hJ := (v2_4.2.2.1 (by omega)).1
      refine r_iconst hC (v := (0)) dX8_greatestAlike_50 (by decide) (by decide) (fun x5_ e5 t5 => ?_)
      refine r_istore_n hC (lv' := [(2, .int x5_), (0, .ref a0), (1, .int x1)]) dX8_greatestAlike_51 (by decide) rfl ?_
      refine r_iconst hC (v := (0)) dX8_greatestAlike_52 (by decide) (by decide) (fun x6_ e6 t6 => ?_)
      refine r_istore_n hC (lv' := [(3, .int x6_), (2, .int x5_), (0, .ref a0), (1, .int x1)]) dX8_greatestAlike_53 (by decide) rfl ?_
      have LP7 : ∀ (mu : Nat) (x7_3 : Int32) (x7_2 : Int32) (v7_0 : 0 ≤ x7_3.toInt) (v7_1 : x7_3.toInt ≤ D 0 7) (v7_2 : x7_2.toInt = Gr D E N x1.toInt x7_3.toInt.toNat) (v7_3 : 0 ≤ x7_2.toInt), (6 - x7_3.toInt).toNat = mu → P g X 4 54 [(0, .ref a0), (1, .int x1), (2, .int x7_2), (3, .int x7_3)] [] 0 0 (K, len, I2, J, R) := by
        intro mu; induction mu using Nat.strongRecOn with | ind mu ih => ?_
        intro x7_3 x7_2 v7_0 v7_1 v7_2 v7_3 hmu
        have ih7 := ih
        clear ih
        have hmu7 := hmu
        clear hmu
        refine r_iload_n hC dX8_greatestAlike_54 3 rfl ?_
        refine r_aload_n hC dX8_greatestAlike_55 0 rfl ?_
        refine r_getr hC 2 (ci := 8) rfl u8_in (by decide) mT_2_80 dX8_greatestAlike_56 ka0 rfl rfl hh ?_
        refine r_geti hC 6 (ci := 1) rfl u1_in (by decide) mT_1_202 dX8_greatestAlike_59 kh rfl rfl (fun x8_ e8 => ?_)
        have r8 := hs2.rng kh rfl e8
        have f8 : x8_.toInt = (I2 h 6).toInt := by rw [e8]
        have w8 : x8_ = x3_ := by rw [e8]; exact e3.symm
        have wt8 : x8_.toInt = x3_.toInt := by rw [w8]
        have sc8 : x8_.toInt = D 0 7 := by rw [e8]; exact v2_4.2.1.2.2.2.2.2.1
        refine r_icmp_ge hC (tgt := 96) dX8_greatestAlike_62 (by decide) (fun c9 => ?_) (fun c9 => ?_)
        · refine r_iload_n hC dX8_greatestAlike_96 2 rfl ?_
          exact r_iret hC hQ hlk hr rfl (by decide) (by decide) dX8_greatestAlike_97 ⟨_, _, rfl, rfl, ⟨hs2, hF2, (by exact v2_4), (by show _ = Gr D E N x1.toInt (D 0 7).toNat; rw [show (D 0 7).toNat = x7_3.toInt.toNat by omega]; exact v7_2)⟩⟩
        · refine r_aload_n hC dX8_greatestAlike_65 0 rfl ?_
          refine r_getr hC 11 (ci := 8) rfl u8_in (by decide) mT_2_89 dX8_greatestAlike_66 ka0 rfl rfl hfn ?_
          refine r_iload_n hC dX8_greatestAlike_69 3 rfl ?_
          refine x_iaload hC kfn lfn (by decide) rfl rfl dX8_greatestAlike_70 (by omega) (by omega) (fun x10_ e10 => ?_)
          have q10 : x10_.toInt = Fi D E N x1.toInt x7_3.toInt.toNat := by rw [e10, clx (i := x7_3) rfl (by omega)]; exact fia _ (by omega)
          refine r_iconst hC (v := (-1)) dX8_greatestAlike_71 (by decide) (by decide) (fun x11_ e11 t11 => ?_)
          refine r_icmp_eq hC (tgt := 90) dX8_greatestAlike_72 (by decide) (fun c12 => ?_) (fun c12 => ?_)
          · obtain ⟨x13_, e13⟩ : ∃ z : Int32, z = x7_3 + Int32.ofInt (1) := ⟨_, rfl⟩
            refine r_iinc hC (j := 3) (v := x13_) (lv' := [(3, .int x13_), (0, .ref a0), (1, .int x1), (2, .int x7_2)]) dX8_greatestAlike_90 rfl (by rw [e13]) (by decide) rfl ?_
            try have t13 : x13_.toInt = x7_3.toInt + (1) := by rw [e13]; exact (ti_add (b := Int32.ofInt (1)) (by show _ ≤ _ + (1 : Int); omega) (by show _ + (1 : Int) ≤ _; omega))
            refine r_goto hC (tgt := 54) dX8_greatestAlike_93 (by decide) ?_
            refine r_sub [1, 2, 3, 0] rfl ?_
            exact ih7 ((6 - x13_.toInt).toNat) (by omega) x13_ x7_2 (by omega) (by omega) (by first | (rw [show x13_.toInt.toNat = 0 by omega]; show _ = (0 : Int); omega) | (rw [show x13_.toInt.toNat = x7_3.toInt.toNat + 1 by omega, Gr_t ff]; omega) | (rw [show x13_.toInt.toNat = x7_3.toInt.toNat + 1 by omega, Gr_n (fun h9 => by have h8 := Fi_t (dep := x1.toInt) h9; have h7 := fnd_nn (kd := D 7 x7_3.toInt.toNat) (hJ.k8 x7_3.toInt.toNat) (show 0 ≤ x1.toInt ∧ x1.toInt ≤ 99 by omega); omega)]; omega)) (by omega) rfl
          · have ff : 59 < Mf D E x7_3.toInt.toNat N := by apply Classical.byContradiction; intro h9; have h8 := Fi_n (dep := x1.toInt) h9; omega
            refine r_iload_n hC dX8_greatestAlike_75 2 rfl ?_
            refine r_aload_n hC dX8_greatestAlike_76 0 rfl ?_
            refine r_aload_n hC dX8_greatestAlike_77 0 rfl ?_
            refine r_getr hC 11 (ci := 8) rfl u8_in (by decide) mT_2_89 dX8_greatestAlike_78 ka0 rfl rfl hfn ?_
            refine r_iload_n hC dX8_greatestAlike_81 3 rfl ?_
            refine x_iaload hC kfn lfn (by decide) rfl rfl dX8_greatestAlike_82 (by omega) (by omega) (fun x14_ e14 => ?_)
            have q14 : x14_.toInt = Fi D E N x1.toInt x7_3.toInt.toNat := by rw [e14, clx (i := x7_3) rfl (by omega)]; exact fia _ (by omega)
            refine r_callV hC (As := [.int x14_]) (rest := [.int x7_2]) (ci := 8) (f_X8_weightFinding g (xL X) K len I2 J R hs2 a0 ka0 x14_ h hh kh lk hlk2 klk rd hrd krd lv hlv klv llv kn hkn kkn lkn cr hcr kcr1 lcr hu D E v2_4 fn hfn kfn lfn (Fi D E N x1.toInt) fia) mT_4_110 mT_1_1 mT_4_107 mT_4_109 mP_44 okX8_weightFinding ⟨by decide, by decide⟩ rfl (by show kO (K a0) = _; rw [ka0]; rfl) rfl rfl (Nat.le_of_ble_eq_true rfl) ⟨by decide, by decide⟩ dX8_greatestAlike_83 (aI0 (F := fun st M => P g X 4 86 [(0, .ref a0), (1, .int x1), (2, .int x7_2), (3, .int x7_3)] st _ _ M) (M := (K, len, I2, J, R)) fun x15_ h15 => ?_)
            obtain ⟨k15_0, k15_1⟩ := h15
            show P g X 4 86 [(0, .ref a0), (1, .int x1), (2, .int x7_2), (3, .int x7_3)] [.int x15_, .int x7_2] _ _ (K, len, I2, J, R)
            have aw : x15_.toInt = Al D E N x1.toInt x7_3.toInt.toNat (D 0 7).toNat := by rw [← Al_w hJ (by omega) (by omega)]; rw [k15_0, show x14_.toInt = Fi D E N x1.toInt x7_3.toInt.toNat by omega]
            refine r_mmax hC mT_4_111 mT_3_11 mT_1_12 mT_3_12 (by decide) (Nat.le_of_ble_eq_true rfl) (Nat.zero_le _) (Nat.zero_le _) dX8_greatestAlike_86 (fun x16_ e16 t16a t16b t16c => ?_)
            refine r_istore_n hC (lv' := [(2, .int x16_), (0, .ref a0), (1, .int x1), (3, .int x7_3)]) dX8_greatestAlike_89 (by decide) rfl ?_
            obtain ⟨x17_, e17⟩ : ∃ z : Int32, z = x7_3 + Int32.ofInt (1) := ⟨_, rfl⟩
            refine r_iinc hC (j := 3) (v := x17_) (lv' := [(3, .int x17_), (2, .int x16_), (0, .ref a0), (1, .int x1)]) dX8_greatestAlike_90 rfl (by rw [e17]) (by decide) rfl ?_
            try have t17 : x17_.toInt = x7_3.toInt + (1) := by rw [e17]; exact (ti_add (b := Int32.ofInt (1)) (by show _ ≤ _ + (1 : Int); omega) (by show _ + (1 : Int) ≤ _; omega))
            refine r_goto hC (tgt := 54) dX8_greatestAlike_93 (by decide) ?_
            refine r_sub [2, 3, 1, 0] rfl ?_
            exact ih7 ((6 - x17_.toInt).toNat) (by omega) x17_ x16_ (by omega) (by omega) (by first | (rw [show x17_.toInt.toNat = 0 by omega]; show _ = (0 : Int); omega) | (rw [show x17_.toInt.toNat = x7_3.toInt.toNat + 1 by omega, Gr_t ff]; omega) | (rw [show x17_.toInt.toNat = x7_3.toInt.toNat + 1 by omega, Gr_n (fun h9 => by have h8 := Fi_t (dep := x1.toInt) h9; have h7 := fnd_nn (kd := D 7 x7_3.toInt.toNat) (hJ.k8 x7_3.toInt.toNat) (show 0 ≤ x1.toInt ∧ x1.toInt ≤ 99 by omega); omega)]; omega)) (by omega) rfl
      refine r_sub [2, 3, 1, 0] rfl ?_
      exact LP7 _ x6_ x5_ (by omega) (by omega) (by first | (rw [show x6_.toInt.toNat = 0 by omega]; show _ = (0 : Int); omega) | (rw [show x6_.toInt.toNat = x7_3.toInt.toNat + 1 by omega, Gr_t ff]; omega) | (rw [show x6_.toInt.toNat = x7_3.toInt.toNat + 1 by omega, Gr_n (fun h9 => by have h8 := Fi_t (dep := x1.toInt) h9; have h7 := fnd_nn (kd := D 7 x7_3.toInt.toNat) (hJ.k8 x7_3.toInt.toNat) (show 0 ≤ x1.toInt ∧ x1.toInt ≤ 99 by omega); omega)]; omega)) (by omega) rfl
    · refine r_aload_n hC dX8_greatestAlike_13 0 rfl ?_
      refine r_getr hC 11 (ci := 8) rfl u8_in (by decide) mT_2_89 dX8_greatestAlike_14 ka0 rfl rfl hfn ?_
      refine r_iload_n hC dX8_greatestAlike_17 2 rfl ?_
      refine r_aload_n hC dX8_greatestAlike_18 0 rfl ?_
      refine r_iload_n hC dX8_greatestAlike_19 2 rfl ?_
      refine r_callV hC (As := [.int x2_2]) (rest := [.int x2_2, .ref fn]) (ci := 8) (f_X8_isFit g (xL X) K len I2 J R hs2 a0 ka0 x2_2 h hh kh lk hlk2 klk rd hrd krd lv hlv klv llv kn hkn kkn lkn cr hcr kcr1 lcr hu D E v2_4 N (by rw [hF2.get krd rfl]; exact hN) mf hmf kmf lmf v2_3 (by omega) (by omega)) mT_4_7 mT_1_1 mT_4_4 mT_4_6 mP_35 okX8_isFit ⟨by decide, by decide⟩ rfl (by show kO (K a0) = _; rw [ka0]; rfl) rfl rfl (Nat.le_of_ble_eq_true rfl) ⟨by decide, by decide⟩ dX8_greatestAlike_20 (aI0 (F := fun st M => P g X 4 23 [(0, .ref a0), (1, .int x1), (2, .int x2_2)] st _ _ M) (M := (K, len, I2, J, R)) fun x18_ h18 => ?_)
      have k18_0 := h18
      clear h18
      show P g X 4 23 [(0, .ref a0), (1, .int x1), (2, .int x2_2)] [.int x18_, .int x2_2, .ref fn] _ _ (K, len, I2, J, R)
      refine r_if_eq hC (tgt := 42) dX8_greatestAlike_23 (by decide) (fun c19 => ?_) (fun c19 => ?_)
      · refine r_iconst hC (v := (-1)) dX8_greatestAlike_42 (by decide) (by decide) (fun x20_ e20 t20 => ?_)
        have tf : x20_.toInt = Fi D E N x1.toInt x2_2.toInt.toNat := by rw [Fi_n (by omega)]; omega
        refine x_iastore hC kfn lfn (by decide) rfl rfl dX8_greatestAlike_43 (by omega) (by omega) (fun I21 eI21 => ?_)
        have hs21 := hs2.put0 eI21 kfn (rng_arr (by decide) _) rfl (xF_arr (by decide) _) (by decide)
        have hF21 := hF2.put eI21 kfn (inS_arr rfl _)
        have hc21 := v2_4.put ka eI21 kfn rfl
        have mff21 : ∀ j : Nat, (j : Int) < D 0 7 → (I21 mf j).toInt = Mf D E j N := fun j hj => by rw [up2_kk eI21 kfn kmf (by decide)]; exact v2_3 j hj
        obtain ⟨x22_, e22⟩ : ∃ z : Int32, z = x2_2 + Int32.ofInt (1) := ⟨_, rfl⟩
        refine r_iinc hC (j := 2) (v := x22_) (lv' := [(2, .int x22_), (0, .ref a0), (1, .int x1)]) dX8_greatestAlike_44 rfl (by rw [e22]) (by decide) rfl ?_
        try have t22 : x22_.toInt = x2_2.toInt + (1) := by rw [e22]; exact (ti_add (b := Int32.ofInt (1)) (by show _ ≤ _ + (1 : Int); omega) (by show _ + (1 : Int) ≤ _; omega))
        refine r_goto hC (tgt := 2) dX8_greatestAlike_47 (by decide) ?_
        refine r_sub [1, 2, 0] rfl ?_
        exact ih2 ((6 - x22_.toInt).toNat) (by omega) x22_ I21 hs21 hF21 (by omega) (by omega) (by first | exact all_0 (P := fun j => (I fn j).toInt = Fi D E N x1.toInt j) (q := 0) (by omega) | exact fillf_s (f := Fi D E N x1.toInt) (k := x2_2.toNatClampNeg) v2_2 eI21 (by have h9 := clampI (i := x2_2) (by omega); omega) (by rw [clx (i := x2_2) rfl (by omega)]; exact tf) (by omega)) (by exact mff21) (by exact hc21) rfl
      · refine r_aload_n hC dX8_greatestAlike_26 0 rfl ?_
        refine r_getr hC 2 (ci := 8) rfl u8_in (by decide) mT_2_80 dX8_greatestAlike_27 ka0 rfl rfl hh ?_
        obtain ⟨a23_, hb23, hk23, hn23⟩ := hs2.row kh 7 45 6 (by decide) (by decide)
        refine r_getr hC 7 (ci := 1) rfl u1_in (by decide) mT_1_205 dX8_greatestAlike_30 kh rfl rfl hb23 ?_
        refine r_iload_n hC dX8_greatestAlike_33 2 rfl ?_
        obtain ⟨a24_, hb24, hk24⟩ := hs2.sto hk23 (i := x2_2) (by omega) (by omega)
        refine x_aaload (C := "HillTap$Story") hC hk23 hn23 (by decide) rfl (by decide) dX8_greatestAlike_34 (by omega) (by omega) hb24 ?_
        refine r_iload_n hC dX8_greatestAlike_35 1 rfl ?_
        obtain ⟨-, sq7, sq8, -⟩ := v2_4.sto (s := x2_2.toInt.toNat) (a := a24_) hb23 (by rw [← clx (i := x2_2) rfl (by omega)]; exact hb24) (by omega) (by omega)
        refine r_callV hC (As := [.int x1]) (rest := [.int x2_2, .ref fn]) (ci := 4) (f_X4_findsAt g (xL X) K len I2 J R hs2 a24_ hk24 x1) mT_4_98 mT_1_7 mT_4_95 mT_4_96 mT_4_97 okX4_findsAt ⟨by decide, by decide⟩ rfl (by show kO (K a24_) = _; rw [hk24]; rfl) rfl rfl (Nat.le_of_ble_eq_true rfl) ⟨by decide, by decide⟩ dX8_greatestAlike_36 (aI0 (F := fun st M => P g X 4 39 [(0, .ref a0), (1, .int x1), (2, .int x2_2)] st _ _ M) (M := (K, len, I2, J, R)) fun x25_ h25 => ?_)
        have k25_0 := h25
        clear h25
        show P g X 4 39 [(0, .ref a0), (1, .int x1), (2, .int x2_2)] [.int x25_, .int x2_2, .ref fn] _ _ (K, len, I2, J, R)
        refine r_goto hC (tgt := 43) dX8_greatestAlike_39 (by decide) ?_
        have tf : x25_.toInt = Fi D E N x1.toInt x2_2.toInt.toNat := by rw [Fi_t (by omega), k25_0, sq7, sq8]
        refine x_iastore hC kfn lfn (by decide) rfl rfl dX8_greatestAlike_43 (by omega) (by omega) (fun I26 eI26 => ?_)
        have hs26 := hs2.put0 eI26 kfn (rng_arr (by decide) _) rfl (xF_arr (by decide) _) (by decide)
        have hF26 := hF2.put eI26 kfn (inS_arr rfl _)
        have hc26 := v2_4.put ka eI26 kfn rfl
        have mff26 : ∀ j : Nat, (j : Int) < D 0 7 → (I26 mf j).toInt = Mf D E j N := fun j hj => by rw [up2_kk eI26 kfn kmf (by decide)]; exact v2_3 j hj
        obtain ⟨x27_, e27⟩ : ∃ z : Int32, z = x2_2 + Int32.ofInt (1) := ⟨_, rfl⟩
        refine r_iinc hC (j := 2) (v := x27_) (lv' := [(2, .int x27_), (0, .ref a0), (1, .int x1)]) dX8_greatestAlike_44 rfl (by rw [e27]) (by decide) rfl ?_
        try have t27 : x27_.toInt = x2_2.toInt + (1) := by rw [e27]; exact (ti_add (b := Int32.ofInt (1)) (by show _ ≤ _ + (1 : Int); omega) (by show _ + (1 : Int) ≤ _; omega))
        refine r_goto hC (tgt := 2) dX8_greatestAlike_47 (by decide) ?_
        refine r_sub [1, 2, 0] rfl ?_
        exact ih2 ((6 - x27_.toInt).toNat) (by omega) x27_ I26 hs26 hF26 (by omega) (by omega) (by first | exact all_0 (P := fun j => (I fn j).toInt = Fi D E N x1.toInt j) (q := 0) (by omega) | exact fillf_s (f := Fi D E N x1.toInt) (k := x2_2.toNatClampNeg) v2_2 eI26 (by have h9 := clampI (i := x2_2) (by omega); omega) (by rw [clx (i := x2_2) rfl (by omega)]; exact tf) (by omega)) (by exact mff26) (by exact hc26) rfl
  refine r_sub [1, 2, 0] rfl ?_
  exact LP2 _ x1_ I hs hF (by omega) (by omega) (by first | exact all_0 (P := fun j => (I fn j).toInt = Fi D E N x1.toInt j) (q := 0) (by omega) | exact fillf_s (f := Fi D E N x1.toInt) (k := x2_2.toNatClampNeg) v2_2 eI (by have h9 := clampI (i := x2_2) (by omega); omega) (by rw [clx (i := x2_2) rfl (by omega)]; exact tf) (by omega)) (by exact mff) (by exact hc) rfl
set_option maxHeartbeats 4000000 in
set_option maxRecDepth 100000 in
theorem a_X8_bore (g : GG) (l : Launch) (K len : Nat → Nat) (I : Nat → Nat → Int32) (J : Nat → Nat → Int64) (R : Nat → Nat → Option Nat) (hs : Sf K len I R) (a0 : Nat) (ka0 : K a0 = 9) (h : Nat) (hh : R a0 2 = some h) (kh : K h = 2) (lk : Nat) (hlk2 : R h 0 = some lk) (klk : K lk = 3) (rd : Nat) (hrd : R a0 9 = some rd) (krd : K rd = 4) (lv : Nat) (hlv : R a0 4 = some lv) (klv : K lv = 41) (llv : len lv = 60) (kn : Nat) (hkn : R a0 6 = some kn) (kkn : K kn = 43) (lkn : len kn = 6) (cr : Nat) (hcr : R a0 5 = some cr) (kcr1 : K cr = 44) (lcr : len cr = 6) (hu : UU K R) (D : DD) (E : Nat → Nat → Int) (hc : KC D E a0 h lk rd I R) (N : Nat) (hN : (I rd 0).toInt = N) : Ct g l yX8_bore cX8_bore 5 (Option.some Jvm.ClassFile.FieldType.int) rmX8_bore [.ref a0] (K, len, I, J, R) (pI1 (K, len, I, J, R) (fun r I' => Sf K len I' R ∧ Fr K [(1, 5), (1, 6), (9, 12), (43, 999), (50, 999), (51, 999), (52, 999), (53, 999), (54, 999), (67, 999), (68, 999)] I I' ∧ (KC D E a0 h lk rd I' R) ∧ ((1 ≤ D 0 7 ∧ Wf D E N (D 0 7).toNat ≠ 0) ∧ r.toInt = Bs D E N 99 ∨ ¬ (1 ≤ D 0 7 ∧ Wf D E N (D 0 7).toNat ≠ 0) ∧ r.toInt = -1) ∧ ((I' a0 12).toInt ≠ 4))) := by
  refine Ct_intro (by decide +kernel) (Nat.le_of_ble_eq_true rfl) (fun X hC hL hKK hNm hr hlk hQ => ?_)
  subst hL
  have hC : Cx g X cX8_bore "HillTap" 5 rmX8_bore := hC
  show P g X 5 0 [(0, .ref a0)] [] 0 0 (K, len, I, J, R)
  have hF : Fr K [(1, 5), (1, 6), (9, 12), (43, 999), (50, 999), (51, 999), (52, 999), (53, 999), (54, 999), (67, 999), (68, 999)] I I := Fr.refl
  have ka : KA a0 h lk rd K len R := ⟨⟨_, hs⟩, hu, ka0, kh, klk, krd⟩
  obtain ⟨sd1, sd2, sd3, sd4, sd5, sd7, sd8, sd9⟩ := id hc.2.1
  have d7b := hs.rng kh (k := 6) rfl (x := I h 6) rfl
  have d5b := hs.rng kh (k := 1) rfl (x := I h 1) rfl
  have d8b := hs.rng kh (k := 8) rfl (x := I h 8) rfl
  obtain ⟨mf, hmf, kmf, lmf⟩ := hs.row ka0 10 67 6 (by decide) (by decide)
  have mfb : ∀ s, 0 ≤ Mf D E s N ∧ Mf D E s N ≤ 60 := fun s => Mf_b (fun j hj => (hc.rdb (by omega)).2.1)
  obtain ⟨fn, hfn, kfn, lfn⟩ := hs.row ka0 11 68 6 (by decide) (by decide)
  refine r_aload_n hC dX8_bore_0 0 rfl ?_
  refine r_callV hC (As := []) (rest := []) (ci := 8) (f_X8_noHill g (xL X) K len I J R hs a0 ka0 h hh kh) mT_3_131 mT_1_1 mT_3_128 mT_3_130 mP_22 okX8_noHill ⟨by decide, by decide⟩ rfl (by show kO (K a0) = _; rw [ka0]; rfl) rfl rfl (Nat.le_of_ble_eq_true rfl) ⟨by decide, by decide⟩ dX8_bore_1 (aI0 (F := fun st M => P g X 5 4 [(0, .ref a0)] st _ _ M) (M := (K, len, I, J, R)) fun x1_ h1 => ?_)
  have k1_0 := h1
  clear h1
  show P g X 5 4 [(0, .ref a0)] [.int x1_] _ _ (K, len, I, J, R)
  rcases k1_0 with ⟨hr1, hw1⟩ | ⟨hr1, hw1⟩
  · refine r_if_eq hC (tgt := 13) dX8_bore_4 (by decide) (fun c2 => ?_) (fun c2 => ?_)
    · exfalso; omega
    refine r_aload_n hC dX8_bore_7 0 rfl ?_
    refine r_iconst hC (v := (1)) dX8_bore_8 (by decide) (by decide) (fun x3_ e3 t3 => ?_)
    refine r_callV hC (As := [.int x3_]) (rest := []) (ci := 8) (c_X8_refuse g (xL X) K len I J R hs a0 ka0 x3_) mT_2_133 mT_1_1 mT_2_130 mT_2_132 mP_0 okX8_refuse ⟨by decide, by decide⟩ rfl (by show kO (K a0) = _; rw [ka0]; rfl) rfl rfl (Nat.le_of_ble_eq_true rfl) ⟨by decide, by decide⟩ dX8_bore_9 (aI1 (F := fun st M => P g X 5 12 [(0, .ref a0)] st _ _ M) (M := (K, len, I, J, R)) fun x4_ I4 h4 => ?_)
    obtain ⟨hs4, hf4, k4_0, k4_1⟩ := h4
    show P g X 5 12 [(0, .ref a0)] [.int x4_] _ _ (K, len, I4, J, R)
    have hF4 : Fr K [(1, 5), (1, 6), (9, 12), (43, 999), (50, 999), (51, 999), (52, 999), (53, 999), (54, 999), (67, 999), (68, 999)] I I4 := hF.trans hf4 rfl rfl
    have hc4 := hc.mv ka hf4 rfl
    exact r_iret hC hQ hlk hr rfl (by decide) (by decide) dX8_bore_12 ⟨_, _, rfl, rfl, ⟨hs4, hF4, (by exact hc4), (by first | exact Or.inr ⟨by omega, by omega⟩ | exact Or.inl ⟨by omega, (congrArg Int32.toInt k4_0).trans (by rw [show 99 = (NOx_l3.toInt - 1).toNat by omega]; exact NOx_v41_2)⟩), (by omega)⟩⟩
  · refine r_if_eq hC (tgt := 13) dX8_bore_4 (by decide) (fun c5 => ?_) (fun c5 => ?_)
    rotate_left
    · exfalso; omega
    refine r_aload_n hC dX8_bore_13 0 rfl ?_
    refine r_callV hC (As := []) (rest := []) (ci := 8) (a_X8_findFits g (xL X) K len I J R hs a0 ka0 h hh kh lk hlk2 klk rd hrd krd lv hlv klv llv kn hkn kkn lkn cr hcr kcr1 lcr hu D E hc N (by rw [hF.get krd rfl]; exact hN) mf hmf kmf lmf) mT_3_226 mT_1_1 mT_3_223 mT_3_225 mP_33 okX8_findFits ⟨by decide, by decide⟩ rfl (by show kO (K a0) = _; rw [ka0]; rfl) rfl rfl (Nat.le_of_ble_eq_true rfl) ⟨by decide, by decide⟩ dX8_bore_14 (aV1 (F := fun st M => P g X 5 17 [(0, .ref a0)] st _ _ M) (M := (K, len, I, J, R)) fun I6 h6 => ?_)
    obtain ⟨hs6, hf6, k6_0, k6_1⟩ := h6
    show P g X 5 17 [(0, .ref a0)] [] _ _ (K, len, I6, J, R)
    have hF6 : Fr K [(1, 5), (1, 6), (9, 12), (43, 999), (50, 999), (51, 999), (52, 999), (53, 999), (54, 999), (67, 999), (68, 999)] I I6 := hF.trans hf6 rfl rfl
    refine r_aload_n hC dX8_bore_17 0 rfl ?_
    refine r_callV hC (As := []) (rest := []) (ci := 8) (f_X8_weightOfFits g (xL X) K len I6 J R hs6 a0 ka0 h hh kh lk hlk2 klk rd hrd krd lv hlv klv llv kn hkn kkn lkn cr hcr kcr1 lcr hu D E k6_0 N (by rw [hF6.get krd rfl]; exact hN) mf hmf kmf lmf k6_1) mT_4_15 mT_1_1 mT_4_12 mT_4_14 mP_36 okX8_weightOfFits ⟨by decide, by decide⟩ rfl (by show kO (K a0) = _; rw [ka0]; rfl) rfl rfl (Nat.le_of_ble_eq_true rfl) ⟨by decide, by decide⟩ dX8_bore_18 (aI0 (F := fun st M => P g X 5 21 [(0, .ref a0)] st _ _ M) (M := (K, len, I6, J, R)) fun x7_ h7 => ?_)
    obtain ⟨k7_0, k7_1⟩ := h7
    show P g X 5 21 [(0, .ref a0)] [.int x7_] _ _ (K, len, I6, J, R)
    refine r_if_ne hC (tgt := 31) dX8_bore_21 (by decide) (fun c8 => ?_) (fun c8 => ?_)
    · refine r_iconst hC (v := (0)) dX8_bore_31 (by decide) (by decide) (fun x9_ e9 t9 => ?_)
      refine r_istore_n hC (lv' := [(1, .int x9_), (0, .ref a0)]) dX8_bore_32 (by decide) rfl ?_
      refine r_aload_n hC dX8_bore_33 1 rfl ?_
      refine r_iconst hC (v := (0)) dX8_bore_34 (by decide) (by decide) (fun x10_ e10 t10 => ?_)
      refine r_callV hC (As := [.int x10_]) (rest := []) (ci := 8) (f_X8_greatestAlike g (xL X) K len I6 J R hs6 a0 ka0 x10_ h hh kh lk hlk2 klk rd hrd krd lv hlv klv llv kn hkn kkn lkn cr hcr kcr1 lcr hu D E k6_0 N (by rw [hF6.get krd rfl]; exact hN) mf hmf kmf lmf k6_1 fn hfn kfn lfn (by omega) (by omega)) mT_4_106 mT_1_1 mT_4_103 mT_4_105 mP_43 okX8_greatestAlike ⟨by decide, by decide⟩ rfl (by show kO (K a0) = _; rw [ka0]; rfl) rfl rfl (Nat.le_of_ble_eq_true rfl) ⟨by decide, by decide⟩ dX8_bore_35 (aI1 (F := fun st M => P g X 5 38 [(1, .int x9_), (0, .ref a0)] st _ _ M) (M := (K, len, I6, J, R)) fun x11_ I11 h11 => ?_)
      obtain ⟨hs11, hf11, k11_0, k11_1⟩ := h11
      show P g X 5 38 [(1, .int x9_), (0, .ref a0)] [.int x11_] _ _ (K, len, I11, J, R)
      have hF11 : Fr K [(1, 5), (1, 6), (9, 12), (43, 999), (50, 999), (51, 999), (52, 999), (53, 999), (54, 999), (67, 999), (68, 999)] I I11 := hF6.trans hf11 rfl rfl
      have mff11 : ∀ j : Nat, (j : Int) < D 0 7 → (I11 mf j).toInt = Mf D E j N := fun j hj => by rw [hf11.get kmf rfl]; exact k6_1 j hj
      have g0 : x11_.toInt = Gx D E N x9_.toInt := by rw [k11_1, show x10_.toInt = x9_.toInt by omega]
      refine r_istore_n hC (lv' := [(2, .int x11_), (1, .int x9_), (0, .ref a0)]) dX8_bore_38 (by decide) rfl ?_
      refine r_iconst hC (v := (1)) dX8_bore_39 (by decide) (by decide) (fun x12_ e12 t12 => ?_)
      refine r_istore_n hC (lv' := [(3, .int x12_), (2, .int x11_), (1, .int x9_), (0, .ref a0)]) dX8_bore_40 (by decide) rfl ?_
      have LP13 : ∀ (mu : Nat) (x13_3 : Int32) (x13_2 : Int32) (x13_1 : Int32) (I13 : Nat → Nat → Int32) (hs13 : Sf K len I13 R) (hF13 : Fr K [(1, 5), (1, 6), (9, 12), (43, 999), (50, 999), (51, 999), (52, 999), (53, 999), (54, 999), (67, 999), (68, 999)] I I13) (v13_0 : 1 ≤ x13_3.toInt) (v13_1 : x13_3.toInt ≤ 100) (v13_2 : x13_1.toInt = Bs D E N (x13_3.toInt - 1).toNat) (v13_3 : 0 ≤ x13_1.toInt ∧ x13_1.toInt ≤ 99) (v13_4 : x13_2.toInt = Gx D E N x13_1.toInt) (v13_5 : ∀ j : Nat, (j : Int) < D 0 7 → (I13 mf j).toInt = Mf D E j N) (v13_6 : KC D E a0 h lk rd I13 R), (100 - x13_3.toInt).toNat = mu → P g X 5 41 [(0, .ref a0), (1, .int x13_1), (2, .int x13_2), (3, .int x13_3)] [] 0 0 (K, len, I13, J, R) := by
        intro mu; induction mu using Nat.strongRecOn with | ind mu ih => ?_
        intro x13_3 x13_2 x13_1 I13 hs13 hF13 v13_0 v13_1 v13_2 v13_3 v13_4 v13_5 v13_6 hmu
        have ih13 := ih
        clear ih
        have hmu13 := hmu
        clear hmu
        refine r_iload_n hC dX8_bore_41 3 rfl ?_
        refine r_bipush hC (v := (99)) dX8_bore_42 (by decide) (by decide) (fun x14_ e14 t14 => ?_)
        refine r_icmp_gt hC (tgt := 71) dX8_bore_44 (by decide) (fun c15 => ?_) (fun c15 => ?_)
        · refine r_aload_n hC dX8_bore_71 0 rfl ?_
          refine r_iload_n hC dX8_bore_72 1 rfl ?_
          refine r_callV hC (As := [.int x13_1]) (rest := []) (ci := 8) (c_X8_answer g (xL X) K len I13 J R hs13 a0 ka0 x13_1) mT_3_115 mT_1_1 mT_3_112 mT_3_114 mP_21 okX8_answer ⟨by decide, by decide⟩ rfl (by show kO (K a0) = _; rw [ka0]; rfl) rfl rfl (Nat.le_of_ble_eq_true rfl) ⟨by decide, by decide⟩ dX8_bore_73 (aI1 (F := fun st M => P g X 5 76 [(0, .ref a0), (1, .int x13_1), (2, .int x13_2), (3, .int x13_3)] st _ _ M) (M := (K, len, I13, J, R)) fun x16_ I16 h16 => ?_)
          obtain ⟨hs16, hf16, k16_0, k16_1⟩ := h16
          show P g X 5 76 [(0, .ref a0), (1, .int x13_1), (2, .int x13_2), (3, .int x13_3)] [.int x16_] _ _ (K, len, I16, J, R)
          have hF16 : Fr K [(1, 5), (1, 6), (9, 12), (43, 999), (50, 999), (51, 999), (52, 999), (53, 999), (54, 999), (67, 999), (68, 999)] I I16 := hF13.trans hf16 rfl rfl
          have hc16 := v13_6.mv ka hf16 rfl
          have mff16 : ∀ j : Nat, (j : Int) < D 0 7 → (I16 mf j).toInt = Mf D E j N := fun j hj => by rw [hf16.get kmf rfl]; exact v13_5 j hj
          exact r_iret hC hQ hlk hr rfl (by decide) (by decide) dX8_bore_76 ⟨_, _, rfl, rfl, ⟨hs16, hF16, (by exact hc16), (by first | exact Or.inr ⟨by omega, by omega⟩ | exact Or.inl ⟨by omega, (congrArg Int32.toInt k16_0).trans (by rw [show 99 = (x13_3.toInt - 1).toNat by omega]; exact v13_2)⟩), (by omega)⟩⟩
        · refine r_aload_n hC dX8_bore_47 0 rfl ?_
          refine r_iload_n hC dX8_bore_48 3 rfl ?_
          refine r_callV hC (As := [.int x13_3]) (rest := []) (ci := 8) (f_X8_greatestAlike g (xL X) K len I13 J R hs13 a0 ka0 x13_3 h hh kh lk hlk2 klk rd hrd krd lv hlv klv llv kn hkn kkn lkn cr hcr kcr1 lcr hu D E v13_6 N (by rw [hF13.get krd rfl]; exact hN) mf hmf kmf lmf v13_5 fn hfn kfn lfn (by omega) (by omega)) mT_4_106 mT_1_1 mT_4_103 mT_4_105 mP_43 okX8_greatestAlike ⟨by decide, by decide⟩ rfl (by show kO (K a0) = _; rw [ka0]; rfl) rfl rfl (Nat.le_of_ble_eq_true rfl) ⟨by decide, by decide⟩ dX8_bore_49 (aI1 (F := fun st M => P g X 5 52 [(0, .ref a0), (1, .int x13_1), (2, .int x13_2), (3, .int x13_3)] st _ _ M) (M := (K, len, I13, J, R)) fun x17_ I17 h17 => ?_)
          obtain ⟨hs17, hf17, k17_0, k17_1⟩ := h17
          show P g X 5 52 [(0, .ref a0), (1, .int x13_1), (2, .int x13_2), (3, .int x13_3)] [.int x17_] _ _ (K, len, I17, J, R)
          have hF17 : Fr K [(1, 5), (1, 6), (9, 12), (43, 999), (50, 999), (51, 999), (52, 999), (53, 999), (54, 999), (67, 999), (68, 999)] I I17 := hF13.trans hf17 rfl rfl
          have mff17 : ∀ j : Nat, (j : Int) < D 0 7 → (I17 mf j).toInt = Mf D E j N := fun j hj => by rw [hf17.get kmf rfl]; exact v13_5 j hj
          refine r_istore hC (lv' := [(4, .int x17_), (0, .ref a0), (1, .int x13_1), (2, .int x13_2), (3, .int x13_3)]) dX8_bore_52 (by decide) rfl ?_
          have g1 : x17_.toInt = Gx D E N x13_3.toInt := k17_1
          refine r_iload hC dX8_bore_54 0 rfl ?_
          refine r_iload_n hC dX8_bore_56 3 rfl ?_
          refine r_icmp_ge hC (tgt := 65) dX8_bore_57 (by decide) (fun c18 => ?_) (fun c18 => ?_)
          · obtain ⟨x19_, e19⟩ : ∃ z : Int32, z = x13_3 + Int32.ofInt (1) := ⟨_, rfl⟩
            refine r_iinc hC (j := 4) (v := x19_) (lv' := [(3, .int x19_), (4, .int x17_), (0, .ref a0), (1, .int x13_1), (2, .int x13_2)]) dX8_bore_65 rfl (by rw [e19]) (by decide) rfl ?_
            try have t19 : x19_.toInt = x13_3.toInt + (1) := by rw [e19]; exact (ti_add (b := Int32.ofInt (1)) (by show _ ≤ _ + (1 : Int); omega) (by show _ + (1 : Int) ≤ _; omega))
            refine r_goto hC (tgt := 41) dX8_bore_68 (by decide) ?_
            refine r_sub [2, 3, 4, 0] rfl ?_
            exact ih13 ((100 - x19_.toInt).toNat) (by omega) x19_ x13_2 x13_1 I17 hs17 hF17 (by omega) (by omega) (by first | (rw [show (x19_.toInt - 1).toNat = 0 by omega]; show _ = (0 : Int); omega) | (rw [show (x19_.toInt - 1).toNat = (x13_3.toInt - 1).toNat + 1 by omega, Bs_t (i := x13_3.toInt) (by omega) (by rw [← v13_2]; omega)]) | (rw [show (x19_.toInt - 1).toNat = (x13_3.toInt - 1).toNat + 1 by omega, Bs_n (i := x13_3.toInt) (by omega) (by rw [← v13_2]; omega)]; omega)) (by omega) (by first | exact g0 | exact g1 | exact v13_4) (by exact mff17) (by exact k17_0) rfl
          · refine r_iload hC dX8_bore_60 0 rfl ?_
            refine r_istore_n hC (lv' := [(2, .int x17_), (4, .int x17_), (0, .ref a0), (1, .int x13_1), (3, .int x13_3)]) dX8_bore_62 (by decide) rfl ?_
            refine r_iload_n hC dX8_bore_63 4 rfl ?_
            refine r_istore_n hC (lv' := [(1, .int x13_3), (2, .int x17_), (4, .int x17_), (0, .ref a0), (3, .int x13_3)]) dX8_bore_64 (by decide) rfl ?_
            obtain ⟨x20_, e20⟩ : ∃ z : Int32, z = x13_3 + Int32.ofInt (1) := ⟨_, rfl⟩
            refine r_iinc hC (j := 4) (v := x20_) (lv' := [(3, .int x20_), (1, .int x13_3), (2, .int x17_), (4, .int x17_), (0, .ref a0)]) dX8_bore_65 rfl (by rw [e20]) (by decide) rfl ?_
            try have t20 : x20_.toInt = x13_3.toInt + (1) := by rw [e20]; exact (ti_add (b := Int32.ofInt (1)) (by show _ ≤ _ + (1 : Int); omega) (by show _ + (1 : Int) ≤ _; omega))
            refine r_goto hC (tgt := 41) dX8_bore_68 (by decide) ?_
            refine r_sub [4, 1, 2, 0] rfl ?_
            exact ih13 ((100 - x20_.toInt).toNat) (by omega) x20_ x17_ x13_3 I17 hs17 hF17 (by omega) (by omega) (by first | (rw [show (x20_.toInt - 1).toNat = 0 by omega]; show _ = (0 : Int); omega) | (rw [show (x20_.toInt - 1).toNat = (x13_3.toInt - 1).toNat + 1 by omega, Bs_t (i := x13_3.toInt) (by omega) (by rw [← v13_2]; omega)]) | (rw [show (x20_.toInt - 1).toNat = (x13_3.toInt - 1).toNat + 1 by omega, Bs_n (i := x13_3.toInt) (by omega) (by rw [← v13_2]; omega)]; omega)) (by omega) (by first | exact g0 | exact g1 | exact v13_4) (by exact mff17) (by exact k17_0) rfl
      refine r_sub [3, 2, 1, 0] rfl ?_
      exact LP13 _ x12_ x11_ x9_ I11 hs11 hF11 (by omega) (by omega) (by first | (rw [show (x12_.toInt - 1).toNat = 0 by omega]; show _ = (0 : Int); omega) | (rw [show (x12_.toInt - 1).toNat = (x13_3.toInt - 1).toNat + 1 by omega, Bs_t (i := x13_3.toInt) (by omega) (by rw [← v13_2]; omega)]) | (rw [show (x12_.toInt - 1).toNat = (x13_3.toInt - 1).toNat + 1 by omega, Bs_n (i := x13_3.toInt) (by omega) (by rw [← v13_2]; omega)]; omega)) (by omega) (by first | exact g0 | exact g1 | exact v13_4) (by exact mff11) (by exact k11_0) rfl
    · refine r_aload_n hC dX8_bore_24 0 rfl ?_
      refine r_bipush hC (v := (6)) dX8_bore_25 (by decide) (by decide) (fun x21_ e21 t21 => ?_)
      refine r_callV hC (As := [.int x21_]) (rest := []) (ci := 8) (c_X8_refuse g (xL X) K len I6 J R hs6 a0 ka0 x21_) mT_2_133 mT_1_1 mT_2_130 mT_2_132 mP_0 okX8_refuse ⟨by decide, by decide⟩ rfl (by show kO (K a0) = _; rw [ka0]; rfl) rfl rfl (Nat.le_of_ble_eq_true rfl) ⟨by decide, by decide⟩ dX8_bore_27 (aI1 (F := fun st M => P g X 5 30 [(0, .ref a0)] st _ _ M) (M := (K, len, I6, J, R)) fun x22_ I22 h22 => ?_)
      obtain ⟨hs22, hf22, k22_0, k22_1⟩ := h22
      show P g X 5 30 [(0, .ref a0)] [.int x22_] _ _ (K, len, I22, J, R)
      have hF22 : Fr K [(1, 5), (1, 6), (9, 12), (43, 999), (50, 999), (51, 999), (52, 999), (53, 999), (54, 999), (67, 999), (68, 999)] I I22 := hF6.trans hf22 rfl rfl
      have hc22 := k6_0.mv ka hf22 rfl
      have mff22 : ∀ j : Nat, (j : Int) < D 0 7 → (I22 mf j).toInt = Mf D E j N := fun j hj => by rw [hf22.get kmf rfl]; exact k6_1 j hj
      exact r_iret hC hQ hlk hr rfl (by decide) (by decide) dX8_bore_30 ⟨_, _, rfl, rfl, ⟨hs22, hF22, (by exact hc22), (by first | exact Or.inr ⟨by omega, by omega⟩ | exact Or.inl ⟨by omega, (congrArg Int32.toInt k22_0).trans (by rw [show 99 = (NOx_l3.toInt - 1).toNat by omega]; exact NOx_v41_2)⟩), (by omega)⟩⟩

