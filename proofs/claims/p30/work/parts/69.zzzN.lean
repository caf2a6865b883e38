def Mf (D : DD) (E : Nat → Nat → Int) (s : Nat) : Nat → Int
  | 0 => 60
  | k + 1 => if E 3 k < NV D s (Ad D s (LP1 D) 1) (E 1 k).toNat (E 0 k).toNat - E 2 k ∨ E 3 k < E 2 k - NV D s (Ad D s (LP1 D) 1) (E 1 k).toNat (E 0 k).toNat then min (Mf D E s k) (E 1 k) else Mf D E s k
def Wf (D : DD) (E : Nat → Nat → Int) (N : Nat) : Nat → Int
  | 0 => 0
  | s + 1 => Wf D E N s + (if 59 < Mf D E s N then D 6 s else 0)
section FITS
variable {D : DD} {E : Nat → Nat → Int} {s k N n : Nat} {d i : Int}
theorem Mf_t (h : E 3 k < NV D s (Ad D s (LP1 D) 1) (E 1 k).toNat (E 0 k).toNat - E 2 k ∨ E 3 k < E 2 k - NV D s (Ad D s (LP1 D) 1) (E 1 k).toNat (E 0 k).toNat) : Mf D E s (k + 1) = min (Mf D E s k) (E 1 k) := by simp only [Mf]; rw [if_pos h]
theorem Mf_n (h : ¬ (E 3 k < NV D s (Ad D s (LP1 D) 1) (E 1 k).toNat (E 0 k).toNat - E 2 k ∨ E 3 k < E 2 k - NV D s (Ad D s (LP1 D) 1) (E 1 k).toNat (E 0 k).toNat)) : Mf D E s (k + 1) = Mf D E s k := by simp only [Mf]; rw [if_neg h]
theorem Mf_b : ∀ {n : Nat}, (∀ j : Nat, j < n → 0 ≤ E 1 j ∧ E 1 j ≤ 59) → 0 ≤ Mf D E s n ∧ Mf D E s n ≤ 60
  | 0, _ => by simp only [Mf]; decide
  | n + 1, h => by
    have h1 := Mf_b (n := n) (fun j hj => h j (by omega))
    have h2 := h n (by omega)
    simp only [Mf]; split <;> omega
theorem Mf_le : ∀ m, Mf D E s (k + m) ≤ Mf D E s k
  | 0 => Int.le_refl _
  | m + 1 => by
    have h := Mf_le m
    show Mf D E s (k + m + 1) ≤ _
    have e : Mf D E s (k + m + 1) ≤ Mf D E s (k + m) := by simp only [Mf]; split <;> omega
    omega
theorem Mf_l2 (h : k ≤ n) : Mf D E s n ≤ Mf D E s k := by
  have := Mf_le (D := D) (E := E) (s := s) (k := k) (n - k)
  rw [show k + (n - k) = n by omega] at this; exact this
theorem Wf_t (h : 59 < Mf D E s N) : Wf D E N (s + 1) = Wf D E N s + D 6 s := by simp only [Wf]; rw [if_pos h]
theorem Wf_n (h : ¬ 59 < Mf D E s N) : Wf D E N (s + 1) = Wf D E N s := by simp only [Wf]; rw [if_neg h]; omega
theorem ti_abs {x z : Int32} (e : z = if 0 ≤ x then x else 0 - x) (h : -2147483647 ≤ x.toInt) : z.toInt = max x.toInt (-x.toInt) := by
  have hr := ti_rng x
  rw [e]
  by_cases h0 : (0 : Int32) ≤ x
  · rw [if_pos h0]
    have h1 := Int32.le_iff_toInt_le.mp h0
    rw [Int32.toInt_zero] at h1; omega
  · rw [if_neg h0]
    have h1 : ¬ (0 : Int) ≤ x.toInt := fun z => h0 (Int32.le_iff_toInt_le.mpr (by rw [Int32.toInt_zero]; exact z))
    rw [ti_sub (by rw [Int32.toInt_zero]; omega) (by rw [Int32.toInt_zero]; omega), Int32.toInt_zero]; omega
theorem ti_neg {x z : Int32} (e : z = -x) (h : -2147483647 ≤ x.toInt) : z.toInt = -x.toInt := by
  have hr := ti_rng x
  rw [e, Int32.toInt_neg, Int.bmod_eq_of_le (by omega) (by omega)]
theorem vnz {v : Int32} (h1 : 0 ≤ v.toInt) (h2 : v.toInt ≤ 1) : vp_nar .boolean v = v := by
  have : v = 0 ∨ v = 1 := by
    rcases (show v.toInt = 0 ∨ v.toInt = 1 by omega) with h | h
    · exact Or.inl (Int32.toInt_inj.mp (by rw [h]; rfl))
    · exact Or.inr (Int32.toInt_inj.mp (by rw [h]; rfl))
  rcases this with rfl | rfl <;> rfl
end FITS
set_option maxHeartbeats 4000000 in
set_option maxRecDepth 100000 in
theorem f_X3_firstMisfit (g : GG) (l : Launch) (K len : Nat → Nat) (I : Nat → Nat → Int32) (J : Nat → Nat → Int64) (R : Nat → Nat → Option Nat) (hs : Sf K len I R) (a0 : Nat) (ka0 : K a0 = 4) (a1 : Nat) (ka1 : K a1 = 1) (E : Nat → Nat → Int) (hE : ∀ r j a : Nat, r < 4 → R a0 (r + 1) = some a → (j : Int) < (I a0 0).toInt → (I a j).toInt = E r j) (hB : ∀ j : Nat, (j : Int) < (I a0 0).toInt → 0 ≤ E 1 j ∧ E 1 j ≤ 59) (N : Nat) (hN : (I a0 0).toInt = N) (D : DD) (s : Nat) (co : CO D s (LP1 D) 1 a1 I R) (hBj : ∀ j : Nat, (j : Int) < (I a0 0).toInt → EBj D E j) (hnv : ∀ d p : Nat, d < 60 → 0 ≤ NV D s (Ad D s (LP1 D) 1) d p ∧ NV D s (Ad D s (LP1 D) 1) d p ≤ 1806000) (hD5 : D 0 5 ≤ 5) : Ct g l yX3_firstMisfit cX3_firstMisfit 5 (Option.some Jvm.ClassFile.FieldType.int) rmX3_firstMisfit [.ref a0, .ref a1] (K, len, I, J, R) (pI0 (K, len, I, J, R) (fun r => (r.toInt = Mf D E s N))) := by
  refine Ct_intro (by decide +kernel) (Nat.le_of_ble_eq_true rfl) (fun X hC hL hKK hNm hr hlk hQ => ?_)
  subst hL
  have hC : Cx g X cX3_firstMisfit "HillTap$Readings" 5 rmX3_firstMisfit := hC
  show P g X 5 0 [(0, .ref a0), (1, .ref a1)] [] 0 0 (K, len, I, J, R)
  have hF : Fr K [] I I := Fr.refl
  obtain ⟨C0, eC0⟩ : ∃ z : Int32, z = I a0 0 := ⟨_, rfl⟩
  have fC0 : C0.toInt = (I a0 0).toInt := by rw [eC0]
  have rC0 := hs.rng ka0 rfl eC0
  refine r_bipush hC (v := (60)) dX3_firstMisfit_0 (by decide) (by decide) (fun x1_ e1 t1 => ?_)
  refine r_istore_n hC (lv' := [(2, .int x1_), (0, .ref a0), (1, .ref a1)]) dX3_firstMisfit_2 (by decide) rfl ?_
  refine r_iconst hC (v := (0)) dX3_firstMisfit_3 (by decide) (by decide) (fun x2_ e2 t2 => ?_)
  refine r_istore_n hC (lv' := [(3, .int x2_), (2, .int x1_), (0, .ref a0), (1, .ref a1)]) dX3_firstMisfit_4 (by decide) rfl ?_
  have LP3 : ∀ (mu : Nat) (x3_3 : Int32) (x3_2 : Int32) (v3_0 : 0 ≤ x3_3.toInt) (v3_1 : x3_3.toInt ≤ N) (v3_2 : x3_2.toInt = Mf D E s x3_3.toInt.toNat) (v3_3 : 0 ≤ x3_2.toInt ∧ x3_2.toInt ≤ 60), (24 - x3_3.toInt).toNat = mu → P g X 5 5 [(0, .ref a0), (1, .ref a1), (2, .int x3_2), (3, .int x3_3)] [] 0 0 (K, len, I, J, R) := by
    intro mu; induction mu using Nat.strongRecOn with | ind mu ih => ?_
    intro x3_3 x3_2 v3_0 v3_1 v3_2 v3_3 hmu
    have ih3 := ih
    clear ih
    have hmu3 := hmu
    clear hmu
    refine r_iload_n hC dX3_firstMisfit_5 3 rfl ?_
    refine r_aload_n hC dX3_firstMisfit_6 0 rfl ?_
    refine r_geti hC 0 (ci := 3) rfl u3_in (by decide) mT_2_60 dX3_firstMisfit_7 ka0 rfl rfl (fun x4_ e4 => ?_)
    have r4 := hs.rng ka0 rfl e4
    have f4 : x4_.toInt = (I a0 0).toInt := by rw [e4]
    have w4 : x4_ = C0 := by rw [e4]; exact eC0.symm
    have wt4 : x4_.toInt = C0.toInt := by rw [w4]
    refine r_icmp_ge hC (tgt := 73) dX3_firstMisfit_10 (by decide) (fun c5 => ?_) (fun c5 => ?_)
    · refine r_iload_n hC dX3_firstMisfit_73 2 rfl ?_
      exact r_iret hC hQ hlk hr rfl (by decide) (by decide) dX3_firstMisfit_74 ⟨_, rfl, rfl, (by rw [show N = x3_3.toInt.toNat by omega]; exact v3_2)⟩
    · refine r_aload_n hC dX3_firstMisfit_13 1 rfl ?_
      obtain ⟨a6_, hb6, hk6, hn6⟩ := hs.row ka1 1 51 300 (by decide) (by decide)
      refine r_getr hC 1 (ci := 0) rfl u0_in (by decide) mT_2_28 dX3_firstMisfit_14 ka1 rfl rfl hb6 ?_
      refine r_aload_n hC dX3_firstMisfit_17 0 rfl ?_
      obtain ⟨a7_, hb7, hk7, hn7⟩ := hs.row ka0 1 46 24 (by decide) (by decide)
      refine r_getr hC 1 (ci := 3) rfl u3_in (by decide) mT_2_62 dX3_firstMisfit_18 ka0 rfl rfl hb7 ?_
      refine r_iload_n hC dX3_firstMisfit_21 3 rfl ?_
      refine x_iaload hC hk7 hn7 (by decide) rfl rfl dX3_firstMisfit_22 (by omega) (by omega) (fun x8_ e8 => ?_)
      have r8 := hs.arr hk7 hn7 rfl (by omega) (by omega) e8
      have q8 : x8_.toInt = E 0 x3_3.toInt.toNat := by rw [e8, clx (i := x3_3) rfl (by omega)]; exact hE 0 _ _ (by decide) hb7 (by omega)
      refine r_aload_n hC dX3_firstMisfit_23 0 rfl ?_
      obtain ⟨a9_, hb9, hk9, hn9⟩ := hs.row ka0 2 47 24 (by decide) (by decide)
      refine r_getr hC 2 (ci := 3) rfl u3_in (by decide) mT_2_63 dX3_firstMisfit_24 ka0 rfl rfl hb9 ?_
      refine r_iload_n hC dX3_firstMisfit_27 3 rfl ?_
      refine x_iaload hC hk9 hn9 (by decide) rfl rfl dX3_firstMisfit_28 (by omega) (by omega) (fun x10_ e10 => ?_)
      have r10 := hs.arr hk9 hn9 rfl (by omega) (by omega) e10
      have q10 : x10_.toInt = E 1 x3_3.toInt.toNat := by rw [e10, clx (i := x3_3) rfl (by omega)]; exact hE 1 _ _ (by decide) hb9 (by omega)
      have jb10 := hB x3_3.toInt.toNat (by omega)
      obtain ⟨jp0, jd0, ji0, jo0⟩ := hBj x3_3.toInt.toNat (by omega)
      refine r_callSN hC (As := [.int x8_, .int x10_]) (rest := [.ref a6_]) (c_X8_row g (xL X) K len I J R hs x8_ x10_ (by omega) (by omega) (by omega) (by omega)) mT_3_192 mT_1_1 nM_6 mT_3_191 okX8_row ⟨by decide, by decide⟩ rfl rfl (Nat.le_of_ble_eq_true rfl) ⟨by decide, by decide⟩ dX3_firstMisfit_29 (aI0 (F := fun st M => P g X 5 32 [(0, .ref a0), (1, .ref a1), (2, .int x3_2), (3, .int x3_3)] st _ _ M) (M := (K, len, I, J, R)) fun x11_ h11 => ?_)
      have k11_0 := h11
      clear h11
      show P g X 5 32 [(0, .ref a0), (1, .ref a1), (2, .int x3_2), (3, .int x3_3)] [.int x11_, .ref a6_] _ _ (K, len, I, J, R)
      refine x_iaload hC hk6 hn6 (by decide) rfl rfl dX3_firstMisfit_32 (by omega) (by omega) (fun x12_ e12 => ?_)
      obtain ⟨jp, jd, ji, jo⟩ := hBj x3_3.toInt.toNat (by omega)
      have q12 : x12_.toInt = NV D s (Ad D s (LP1 D) 1) (E 1 x3_3.toInt.toNat).toNat (E 0 x3_3.toInt.toNat).toNat := by rw [e12, clx (i := x11_) rfl (by omega), show x11_.toInt.toNat = 60 * (E 0 x3_3.toInt.toNat).toNat + (E 1 x3_3.toInt.toNat).toNat by omega]; exact co.inc hs ka1 hb6 (by omega) (by omega)
      have jb12 := hnv (E 1 x3_3.toInt.toNat).toNat (E 0 x3_3.toInt.toNat).toNat (by omega)
      refine r_aload_n hC dX3_firstMisfit_33 0 rfl ?_
      obtain ⟨a13_, hb13, hk13, hn13⟩ := hs.row ka0 3 65 24 (by decide) (by decide)
      refine r_getr hC 3 (ci := 3) rfl u3_in (by decide) mT_2_64 dX3_firstMisfit_34 ka0 rfl rfl hb13 ?_
      refine r_iload_n hC dX3_firstMisfit_37 3 rfl ?_
      refine x_iaload hC hk13 hn13 (by decide) rfl rfl dX3_firstMisfit_38 (by omega) (by omega) (fun x14_ e14 => ?_)
      have q14 : x14_.toInt = E 2 x3_3.toInt.toNat := by rw [e14, clx (i := x3_3) rfl (by omega)]; exact hE 2 _ _ (by decide) hb13 (by omega)
      refine r_isub hC dX3_firstMisfit_39 (fun x15_ e15 => ?_)
      try have t15 : x15_.toInt = x12_.toInt - x14_.toInt := by rw [e15]; exact ti_sub (by omega) (by omega)
      refine r_mabs hC mT_3_232 mT_3_233 mT_1_12 mT_3_234 (by decide) (Nat.le_of_ble_eq_true rfl) (Nat.zero_le _) (Nat.zero_le _) dX3_firstMisfit_40 (fun x16_ e16 => ?_)
      have tb : x16_.toInt = max x15_.toInt (-x15_.toInt) := ti_abs e16 (by omega)
      refine r_istore hC (lv' := [(4, .int x16_), (0, .ref a0), (1, .ref a1), (2, .int x3_2), (3, .int x3_3)]) dX3_firstMisfit_43 (by decide) rfl ?_
      refine r_iload hC dX3_firstMisfit_45 0 rfl ?_
      refine r_aload_n hC dX3_firstMisfit_47 1 rfl ?_
      obtain ⟨a17_, hb17, hk17, hn17⟩ := hs.row ka0 4 66 24 (by decide) (by decide)
      refine r_getr hC 4 (ci := 3) rfl u3_in (by decide) mT_2_65 dX3_firstMisfit_48 ka0 rfl rfl hb17 ?_
      refine r_iload_n hC dX3_firstMisfit_51 4 rfl ?_
      refine x_iaload hC hk17 hn17 (by decide) rfl rfl dX3_firstMisfit_52 (by omega) (by omega) (fun x18_ e18 => ?_)
      have q18 : x18_.toInt = E 3 x3_3.toInt.toNat := by rw [e18, clx (i := x3_3) rfl (by omega)]; exact hE 3 _ _ (by decide) hb17 (by omega)
      refine r_icmp_le hC (tgt := 67) dX3_firstMisfit_53 (by decide) (fun c19 => ?_) (fun c19 => ?_)
      · obtain ⟨x20_, e20⟩ : ∃ z : Int32, z = x3_3 + Int32.ofInt (1) := ⟨_, rfl⟩
        refine r_iinc hC (j := 4) (v := x20_) (lv' := [(3, .int x20_), (4, .int x16_), (0, .ref a0), (1, .ref a1), (2, .int x3_2)]) dX3_firstMisfit_67 rfl (by rw [e20]) (by decide) rfl ?_
        try have t20 : x20_.toInt = x3_3.toInt + (1) := by rw [e20]; exact (ti_add (b := Int32.ofInt (1)) (by show _ ≤ _ + (1 : Int); omega) (by show _ + (1 : Int) ≤ _; omega))
        refine r_goto hC (tgt := 5) dX3_firstMisfit_70 (by decide) ?_
        refine r_sub [2, 3, 4, 0] rfl ?_
        exact ih3 ((24 - x20_.toInt).toNat) (by omega) x20_ x3_2 (by omega) (by omega) (by first | (rw [show x20_.toInt.toNat = 0 by omega]; show _ = (60 : Int); omega) | (rw [show x20_.toInt.toNat = x3_3.toInt.toNat + 1 by omega, Mf_t (by omega)]; omega) | (rw [show x20_.toInt.toNat = x3_3.toInt.toNat + 1 by omega, Mf_n (by omega)]; omega)) (by omega) rfl
      · refine r_iload_n hC dX3_firstMisfit_56 3 rfl ?_
        refine r_aload_n hC dX3_firstMisfit_57 1 rfl ?_
        refine r_getr hC 2 (ci := 3) rfl u3_in (by decide) mT_2_63 dX3_firstMisfit_58 ka0 rfl rfl hb9 ?_
        refine r_iload_n hC dX3_firstMisfit_61 4 rfl ?_
        refine x_iaload hC hk9 hn9 (by decide) rfl rfl dX3_firstMisfit_62 (by omega) (by omega) (fun x21_ e21 => ?_)
        have r21 := hs.arr hk9 hn9 rfl (by omega) (by omega) e21
        have q21 : x21_.toInt = E 1 x3_3.toInt.toNat := by rw [e21, clx (i := x3_3) rfl (by omega)]; exact hE 1 _ _ (by decide) hb9 (by omega)
        have jb21 := hB x3_3.toInt.toNat (by omega)
        refine r_mmin hC mT_3_235 mT_2_154 mT_1_12 mT_2_155 (by decide) (Nat.le_of_ble_eq_true rfl) (Nat.zero_le _) (Nat.zero_le _) dX3_firstMisfit_63 (fun x22_ e22 t22a t22b t22c => ?_)
        refine r_istore_n hC (lv' := [(2, .int x22_), (4, .int x16_), (0, .ref a0), (1, .ref a1), (3, .int x3_3)]) dX3_firstMisfit_66 (by decide) rfl ?_
        obtain ⟨x23_, e23⟩ : ∃ z : Int32, z = x3_3 + Int32.ofInt (1) := ⟨_, rfl⟩
        refine r_iinc hC (j := 4) (v := x23_) (lv' := [(3, .int x23_), (2, .int x22_), (4, .int x16_), (0, .ref a0), (1, .ref a1)]) dX3_firstMisfit_67 rfl (by rw [e23]) (by decide) rfl ?_
        try have t23 : x23_.toInt = x3_3.toInt + (1) := by rw [e23]; exact (ti_add (b := Int32.ofInt (1)) (by show _ ≤ _ + (1 : Int); omega) (by show _ + (1 : Int) ≤ _; omega))
        refine r_goto hC (tgt := 5) dX3_firstMisfit_70 (by decide) ?_
        refine r_sub [3, 4, 1, 0] rfl ?_
        exact ih3 ((24 - x23_.toInt).toNat) (by omega) x23_ x22_ (by omega) (by omega) (by first | (rw [show x23_.toInt.toNat = 0 by omega]; show _ = (60 : Int); omega) | (rw [show x23_.toInt.toNat = x3_3.toInt.toNat + 1 by omega, Mf_t (by omega)]; omega) | (rw [show x23_.toInt.toNat = x3_3.toInt.toNat + 1 by omega, Mf_n (by omega)]; omega)) (by omega) rfl
  refine r_sub [2, 3, 1, 0] rfl ?_
  exact LP3 _ x2_ x1_ (by omega) (by omega) (by first | (rw [show x2_.toInt.toNat = 0 by omega]; show _ = (60 : Int); omega) | (rw [show x2_.toInt.toNat = x3_3.toInt.toNat + 1 by omega, Mf_t (by omega)]; omega) | (rw [show x2_.toInt.toNat = x3_3.toInt.toNat + 1 by omega, Mf_n (by omega)]; omega)) (by omega) rfl
set_option maxHeartbeats 4000000 in
set_option maxRecDepth 100000 in
theorem a_X8_findFits (g : GG) (l : Launch) (K len : Nat → Nat) (I : Nat → Nat → Int32) (J : Nat → Nat → Int64) (R : Nat → Nat → Option Nat) (hs : Sf K len I R) (a0 : Nat) (ka0 : K a0 = 9) (h : Nat) (hh : R a0 2 = some h) (kh : K h = 2) (lk : Nat) (hlk2 : R h 0 = some lk) (klk : K lk = 3) (rd : Nat) (hrd : R a0 9 = some rd) (krd : K rd = 4) (lv : Nat) (hlv : R a0 4 = some lv) (klv : K lv = 41) (llv : len lv = 60) (kn : Nat) (hkn : R a0 6 = some kn) (kkn : K kn = 43) (lkn : len kn = 6) (cr : Nat) (hcr : R a0 5 = some cr) (kcr1 : K cr = 44) (lcr : len cr = 6) (hu : UU K R) (D : DD) (E : Nat → Nat → Int) (hc : KC D E a0 h lk rd I R) (N : Nat) (hN : (I rd 0).toInt = N) (mf : Nat) (hmf : R a0 10 = some mf) (kmf : K mf = 67) (lmf : len mf = 6) : Ct g l yX8_findFits cX8_findFits 2 (Option.none : Option Jvm.ClassFile.FieldType) rmX8_findFits [.ref a0] (K, len, I, J, R) (pV1 (K, len, I, J, R) (fun I' => Sf K len I' R ∧ Fr K [(1, 5), (1, 6), (43, 999), (50, 999), (51, 999), (52, 999), (53, 999), (54, 999), (67, 999)] I I' ∧ (KC D E a0 h lk rd I' R) ∧ (∀ j : Nat, (j : Int) < D 0 7 → (I' mf j).toInt = Mf D E j N))) := by
  refine Ct_intro (by decide +kernel) (Nat.le_of_ble_eq_true rfl) (fun X hC hL hKK hNm hr hlk hQ => ?_)
  subst hL
  have hC : Cx g X cX8_findFits "HillTap" 2 rmX8_findFits := hC
  show P g X 2 0 [(0, .ref a0)] [] 0 0 (K, len, I, J, R)
  have hF : Fr K [(1, 5), (1, 6), (43, 999), (50, 999), (51, 999), (52, 999), (53, 999), (54, 999), (67, 999)] I I := Fr.refl
  have ka : KA a0 h lk rd K len R := ⟨⟨_, hs⟩, hu, ka0, kh, klk, krd⟩
  obtain ⟨sd1, sd2, sd3, sd4, sd5, sd7, sd8, sd9⟩ := id hc.2.1
  have d7b := hs.rng kh (k := 6) rfl (x := I h 6) rfl
  have d5b := hs.rng kh (k := 1) rfl (x := I h 1) rfl
  have d8b := hs.rng kh (k := 8) rfl (x := I h 8) rfl
  have mfb : ∀ s, 0 ≤ Mf D E s N ∧ Mf D E s N ≤ 60 := fun s => Mf_b (fun j hj => (hc.rdb (by omega)).2.1)
  refine r_iconst hC (v := (0)) dX8_findFits_0 (by decide) (by decide) (fun x1_ e1 t1 => ?_)
  refine r_istore_n hC (lv' := [(1, .int x1_), (0, .ref a0)]) dX8_findFits_1 (by decide) rfl ?_
  have LP2 : ∀ (mu : Nat) (x2_1 : Int32) (I2 : Nat → Nat → Int32) (hs2 : Sf K len I2 R) (hF2 : Fr K [(1, 5), (1, 6), (43, 999), (50, 999), (51, 999), (52, 999), (53, 999), (54, 999), (67, 999)] I I2) (v2_0 : 0 ≤ x2_1.toInt) (v2_1 : x2_1.toInt ≤ D 0 7) (v2_2 : ∀ j : Nat, 0 ≤ j → (j : Int) < x2_1.toInt → (I2 mf j).toInt = (fun j => Mf D E j N) j) (v2_3 : KC D E a0 h lk rd I2 R), (6 - x2_1.toInt).toNat = mu → P g X 2 2 [(0, .ref a0), (1, .int x2_1)] [] 0 0 (K, len, I2, J, R) := by
    intro mu; induction mu using Nat.strongRecOn with | ind mu ih => ?_
    intro x2_1 I2 hs2 hF2 v2_0 v2_1 v2_2 v2_3 hmu
    have ih2 := ih
    clear ih
    have hmu2 := hmu
    clear hmu
    refine r_iload_n hC dX8_findFits_2 1 rfl ?_
    refine r_aload_n hC dX8_findFits_3 0 rfl ?_
    refine r_getr hC 2 (ci := 8) rfl u8_in (by decide) mT_2_80 dX8_findFits_4 ka0 rfl rfl hh ?_
    refine r_geti hC 6 (ci := 1) rfl u1_in (by decide) mT_1_202 dX8_findFits_7 kh rfl rfl (fun x3_ e3 => ?_)
    have r3 := hs2.rng kh rfl e3
    have f3 : x3_.toInt = (I2 h 6).toInt := by rw [e3]
    have sc3 : x3_.toInt = D 0 7 := by rw [e3]; exact v2_3.2.1.2.2.2.2.2.1
    refine r_icmp_ge hC (tgt := 37) dX8_findFits_10 (by decide) (fun c4 => ?_) (fun c4 => ?_)
    · exact r_vret hC hQ hlk hr (by decide) (by decide) dX8_findFits_37 ⟨_, rfl, rfl, ⟨hs2, hF2, (by exact v2_3), (by exact fun j hj => v2_2 j (Nat.zero_le j) (by omega))⟩⟩
    · refine r_aload_n hC dX8_findFits_13 0 rfl ?_
      refine r_getr hC 10 (ci := 8) rfl u8_in (by decide) mT_2_88 dX8_findFits_14 ka0 rfl rfl hmf ?_
      refine r_iload_n hC dX8_findFits_17 1 rfl ?_
      refine r_aload_n hC dX8_findFits_18 0 rfl ?_
      refine r_getr hC 9 (ci := 8) rfl u8_in (by decide) mT_2_87 dX8_findFits_19 ka0 rfl rfl hrd ?_
      refine r_aload_n hC dX8_findFits_22 0 rfl ?_
      refine r_iload_n hC dX8_findFits_23 1 rfl ?_
      refine r_callV hC (As := [.int x2_1]) (rest := [.ref rd, .int x2_1, .ref mf]) (ci := 8) (f_X8_courseOf g (xL X) K len I2 J R hs2 a0 ka0 x2_1 h hh kh lk hlk2 klk rd hrd krd lv hlv klv llv kn hkn kkn lkn cr hcr kcr1 lcr hu D E v2_3 (by omega) (by omega)) mT_3_163 mT_1_1 mT_3_160 mT_3_162 mP_26 okX8_courseOf ⟨by decide, by decide⟩ rfl (by show kO (K a0) = _; rw [ka0]; rfl) rfl rfl (Nat.le_of_ble_eq_true rfl) ⟨by decide, by decide⟩ dX8_findFits_24 (aR1 (F := fun st M => P g X 2 27 [(0, .ref a0), (1, .int x2_1)] st _ _ M) (M := (K, len, I2, J, R)) fun a5_ I5 h5 => ?_)
      obtain ⟨hs5, hf5, k5_0, k5_1, k5_2, k5_3, k5_4⟩ := h5
      show P g X 2 27 [(0, .ref a0), (1, .int x2_1)] [.ref a5_, .ref rd, .int x2_1, .ref mf] _ _ (K, len, I5, J, R)
      have hF5 : Fr K [(1, 5), (1, 6), (43, 999), (50, 999), (51, 999), (52, 999), (53, 999), (54, 999), (67, 999)] I I5 := hF2.trans hf5 rfl rfl
      have hnv : ∀ d p : Nat, d < 60 → 0 ≤ NV D x2_1.toInt.toNat (Ad D x2_1.toInt.toNat (LP1 D) 1) d p ∧ NV D x2_1.toInt.toNat (Ad D x2_1.toInt.toNat (LP1 D) 1) d p ≤ 1806000 := fun d p hd => k5_2.nvb (s := x2_1.toInt.toNat) (by omega) (w2 := 1) d p hd
      refine r_callV hC (As := [.ref a5_]) (rest := [.int x2_1, .ref mf]) (ci := 3) (f_X3_firstMisfit g (xL X) K len I5 J R hs5 rd krd a5_ k5_0 E k5_2.2.2.2.2.1 (fun j hj => (k5_2.rdb hj).2.1) N (by rw [hF5.get krd rfl]; exact hN) D x2_1.toInt.toNat k5_3 k5_2.2.2.2.2.2 hnv (by omega)) mT_3_230 mT_1_9 mT_3_227 mT_3_228 mT_3_229 okX3_firstMisfit ⟨by decide, by decide⟩ rfl (by show kO (K rd) = _; rw [krd]; rfl) rfl rfl (Nat.le_of_ble_eq_true rfl) ⟨by decide, by decide⟩ dX8_findFits_27 (aI0 (F := fun st M => P g X 2 30 [(0, .ref a0), (1, .int x2_1)] st _ _ M) (M := (K, len, I5, J, R)) fun x6_ h6 => ?_)
      have k6_0 := h6
      clear h6
      show P g X 2 30 [(0, .ref a0), (1, .int x2_1)] [.int x6_, .int x2_1, .ref mf] _ _ (K, len, I5, J, R)
      have tf : x6_.toInt = Mf D E x2_1.toInt.toNat N := k6_0
      refine x_iastore hC kmf lmf (by decide) rfl rfl dX8_findFits_30 (by omega) (by omega) (fun I7 eI7 => ?_)
      have hs7 := hs5.put0 eI7 kmf (rng_arr (by decide) _) rfl (xF_arr (by decide) _) (by decide)
      have hF7 := hF5.put eI7 kmf (inS_arr rfl _)
      have hc7 := k5_2.put ka eI7 kmf rfl
      obtain ⟨x8_, e8⟩ : ∃ z : Int32, z = x2_1 + Int32.ofInt (1) := ⟨_, rfl⟩
      refine r_iinc hC (j := 1) (v := x8_) (lv' := [(1, .int x8_), (0, .ref a0)]) dX8_findFits_31 rfl (by rw [e8]) (by decide) rfl ?_
      try have t8 : x8_.toInt = x2_1.toInt + (1) := by rw [e8]; exact (ti_add (b := Int32.ofInt (1)) (by show _ ≤ _ + (1 : Int); omega) (by show _ + (1 : Int) ≤ _; omega))
      refine r_goto hC (tgt := 2) dX8_findFits_34 (by decide) ?_
      refine r_sub [1, 0] rfl ?_
      exact ih2 ((6 - x8_.toInt).toNat) (by omega) x8_ I7 hs7 hF7 (by omega) (by omega) (by first | exact all_0 (P := fun j => (I mf j).toInt = Mf D E j N) (q := 0) (by omega) | exact fillf_s (f := fun j => Mf D E j N) (k := x2_1.toNatClampNeg) (fun j h0 hj => by rw [hf5.get kmf rfl]; exact v2_2 j h0 hj) eI7 (by have h9 := clampI (i := x2_1) (by omega); omega) (by rw [clx (i := x2_1) rfl (by omega)]; exact tf) (by omega)) (by exact hc7) rfl
  refine r_sub [1, 0] rfl ?_
  exact LP2 _ x1_ I hs hF (by omega) (by omega) (by first | exact all_0 (P := fun j => (I mf j).toInt = Mf D E j N) (q := 0) (by omega) | exact fillf_s (f := fun j => Mf D E j N) (k := x2_1.toNatClampNeg) (fun j h0 hj => by rw [hfNOcok.get kmf rfl]; exact v2_2 j h0 hj) eI (by have h9 := clampI (i := x2_1) (by omega); omega) (by rw [clx (i := x2_1) rfl (by omega)]; exact tf) (by omega)) (by exact hc) rfl
set_option maxHeartbeats 4000000 in
set_option maxRecDepth 100000 in
theorem f_X8_isFit (g : GG) (l : Launch) (K len : Nat → Nat) (I : Nat → Nat → Int32) (J : Nat → Nat → Int64) (R : Nat → Nat → Option Nat) (hs : Sf K len I R) (a0 : Nat) (ka0 : K a0 = 9) (x1 : Int32) (h : Nat) (hh : R a0 2 = some h) (kh : K h = 2) (lk : Nat) (hlk2 : R h 0 = some lk) (klk : K lk = 3) (rd : Nat) (hrd : R a0 9 = some rd) (krd : K rd = 4) (lv : Nat) (hlv : R a0 4 = some lv) (klv : K lv = 41) (llv : len lv = 60) (kn : Nat) (hkn : R a0 6 = some kn) (kkn : K kn = 43) (lkn : len kn = 6) (cr : Nat) (hcr : R a0 5 = some cr) (kcr1 : K cr = 44) (lcr : len cr = 6) (hu : UU K R) (D : DD) (E : Nat → Nat → Int) (hc : KC D E a0 h lk rd I R) (N : Nat) (hN : (I rd 0).toInt = N) (mf : Nat) (hmf : R a0 10 = some mf) (kmf : K mf = 67) (lmf : len mf = 6) (mff : ∀ j : Nat, (j : Int) < D 0 7 → (I mf j).toInt = Mf D E j N) (p0 : 0 ≤ x1.toInt) (p1 : x1.toInt < D 0 7) : Ct g l yX8_isFit cX8_isFit 2 (Option.some Jvm.ClassFile.FieldType.boolean) rmX8_isFit [.ref a0, .int x1] (K, len, I, J, R) (pI0 (K, len, I, J, R) (fun r => (r.toInt = 1 ∧ (59 < Mf D E x1.toInt.toNat N) ∨ r.toInt = 0 ∧ ¬ (59 < Mf D E x1.toInt.toNat N)))) := by
  refine Ct_intro (by decide +kernel) (Nat.le_of_ble_eq_true rfl) (fun X hC hL hKK hNm hr hlk hQ => ?_)
  subst hL
  have hC : Cx g X cX8_isFit "HillTap" 2 rmX8_isFit := hC
  show P g X 2 0 [(0, .ref a0), (1, .int x1)] [] 0 0 (K, len, I, J, R)
  have hF : Fr K [] I I := Fr.refl
  have ka : KA a0 h lk rd K len R := ⟨⟨_, hs⟩, hu, ka0, kh, klk, krd⟩
  obtain ⟨sd1, sd2, sd3, sd4, sd5, sd7, sd8, sd9⟩ := id hc.2.1
  have d7b := hs.rng kh (k := 6) rfl (x := I h 6) rfl
  have d5b := hs.rng kh (k := 1) rfl (x := I h 1) rfl
  have d8b := hs.rng kh (k := 8) rfl (x := I h 8) rfl
  have mfb : ∀ s, 0 ≤ Mf D E s N ∧ Mf D E s N ≤ 60 := fun s => Mf_b (fun j hj => (hc.rdb (by omega)).2.1)
  have b_x1 := ti_rng x1
  refine r_aload_n hC dX8_isFit_0 0 rfl ?_
  refine r_getr hC 10 (ci := 8) rfl u8_in (by decide) mT_2_88 dX8_isFit_1 ka0 rfl rfl hmf ?_
  refine r_iload_n hC dX8_isFit_4 1 rfl ?_
  refine x_iaload hC kmf lmf (by decide) rfl rfl dX8_isFit_5 (by omega) (by omega) (fun x1_ e1 => ?_)
  have q1 : x1_.toInt = Mf D E x1.toInt.toNat N := by rw [e1, clx (i := x1) rfl (by omega)]; exact mff _ (by omega)
  have jb1 := mfb x1.toInt.toNat
  refine r_bipush hC (v := (60)) dX8_isFit_6 (by decide) (by decide) (fun x2_ e2 t2 => ?_)
  refine r_icmp_ne hC (tgt := 15) dX8_isFit_8 (by decide) (fun c3 => ?_) (fun c3 => ?_)
  · refine r_iconst hC (v := (0)) dX8_isFit_15 (by decide) (by decide) (fun x4_ e4 t4 => ?_)
    exact r_iret hC hQ hlk hr (by rw [e4]; rfl) (by decide) (by decide) dX8_isFit_16 ⟨_, rfl, rfl, (by omega)⟩
  · refine r_iconst hC (v := (1)) dX8_isFit_11 (by decide) (by decide) (fun x5_ e5 t5 => ?_)
    refine r_goto hC (tgt := 16) dX8_isFit_12 (by decide) ?_
    exact r_iret hC hQ hlk hr (by rw [e5]; rfl) (by decide) (by decide) dX8_isFit_16 ⟨_, rfl, rfl, (by omega)⟩
set_option maxHeartbeats 4000000 in
set_option maxRecDepth 100000 in
theorem f_X8_weightOfFits (g : GG) (l : Launch) (K len : Nat → Nat) (I : Nat → Nat → Int32) (J : Nat → Nat → Int64) (R : Nat → Nat → Option Nat) (hs : Sf K len I R) (a0 : Nat) (ka0 : K a0 = 9) (h : Nat) (hh : R a0 2 = some h) (kh : K h = 2) (lk : Nat) (hlk2 : R h 0 = some lk) (klk : K lk = 3) (rd : Nat) (hrd : R a0 9 = some rd) (krd : K rd = 4) (lv : Nat) (hlv : R a0 4 = some lv) (klv : K lv = 41) (llv : len lv = 60) (kn : Nat) (hkn : R a0 6 = some kn) (kkn : K kn = 43) (lkn : len kn = 6) (cr : Nat) (hcr : R a0 5 = some cr) (kcr1 : K cr = 44) (lcr : len cr = 6) (hu : UU K R) (D : DD) (E : Nat → Nat → Int) (hc : KC D E a0 h lk rd I R) (N : Nat) (hN : (I rd 0).toInt = N) (mf : Nat) (hmf : R a0 10 = some mf) (kmf : K mf = 67) (lmf : len mf = 6) (mff : ∀ j : Nat, (j : Int) < D 0 7 → (I mf j).toInt = Mf D E j N) : Ct g l yX8_weightOfFits cX8_weightOfFits 3 (Option.some Jvm.ClassFile.FieldType.int) rmX8_weightOfFits [.ref a0] (K, len, I, J, R) (pI0 (K, len, I, J, R) (fun r => (r.toInt = Wf D E N (D 0 7).toNat) ∧ (0 ≤ r.toInt ∧ r.toInt ≤ 600))) := by
  refine Ct_intro (by decide +kernel) (Nat.le_of_ble_eq_true rfl) (fun X hC hL hKK hNm hr hlk hQ => ?_)
  subst hL
  have hC : Cx g X cX8_weightOfFits "HillTap" 3 rmX8_weightOfFits := hC
  show P g X 3 0 [(0, .ref a0)] [] 0 0 (K, len, I, J, R)
  have hF : Fr K [] I I := Fr.refl
  have ka : KA a0 h lk rd K len R := ⟨⟨_, hs⟩, hu, ka0, kh, klk, krd⟩
  obtain ⟨sd1, sd2, sd3, sd4, sd5, sd7, sd8, sd9⟩ := id hc.2.1
  have d7b := hs.rng kh (k := 6) rfl (x := I h 6) rfl
  have d5b := hs.rng kh (k := 1) rfl (x := I h 1) rfl
  have d8b := hs.rng kh (k := 8) rfl (x := I h 8) rfl
  have mfb : ∀ s, 0 ≤ Mf D E s N ∧ Mf D E s N ≤ 60 := fun s => Mf_b (fun j hj => (hc.rdb (by omega)).2.1)
  refine r_iconst hC (v := (0)) dX8_weightOfFits_0 (by decide) (by decide) (fun x1_ e1 t1 => ?_)
  refine r_istore_n hC (lv' := [(1, .int x1_), (0, .ref a0)]) dX8_weightOfFits_1 (by decide) rfl ?_
  refine r_iconst hC (v := (0)) dX8_weightOfFits_2 (by decide) (by decide) (fun x2_ e2 t2 => ?_)
  refine r_istore_n hC (lv' := [(2, .int x2_), (1, .int x1_), (0, .ref a0)]) dX8_weightOfFits_3 (by decide) rfl ?_
  have LP3 : ∀ (mu : Nat) (x3_2 : Int32) (x3_1 : Int32) (v3_0 : 0 ≤ x3_2.toInt) (v3_1 : x3_2.toInt ≤ D 0 7) (v3_2 : x3_1.toInt = Wf D E N x3_2.toInt.toNat) (v3_3 : 0 ≤ x3_1.toInt ∧ x3_1.toInt ≤ 99 * x3_2.toInt), (6 - x3_2.toInt).toNat = mu → P g X 3 4 [(0, .ref a0), (1, .int x3_1), (2, .int x3_2)] [] 0 0 (K, len, I, J, R) := by
    intro mu; induction mu using Nat.strongRecOn with | ind mu ih => ?_
    intro x3_2 x3_1 v3_0 v3_1 v3_2 v3_3 hmu
    have ih3 := ih
    clear ih
    have hmu3 := hmu
    clear hmu
    refine r_iload_n hC dX8_weightOfFits_4 2 rfl ?_
    refine r_aload_n hC dX8_weightOfFits_5 0 rfl ?_
    refine r_getr hC 2 (ci := 8) rfl u8_in (by decide) mT_2_80 dX8_weightOfFits_6 ka0 rfl rfl hh ?_
    refine r_geti hC 6 (ci := 1) rfl u1_in (by decide) mT_1_202 dX8_weightOfFits_9 kh rfl rfl (fun x4_ e4 => ?_)
    have r4 := hs.rng kh rfl e4
    have f4 : x4_.toInt = (I h 6).toInt := by rw [e4]
    have sc4 : x4_.toInt = D 0 7 := by rw [e4]; exact hc.2.1.2.2.2.2.2.1
    refine r_icmp_ge hC (tgt := 44) dX8_weightOfFits_12 (by decide) (fun c5 => ?_) (fun c5 => ?_)
    · refine r_iload_n hC dX8_weightOfFits_44 1 rfl ?_
      exact r_iret hC hQ hlk hr rfl (by decide) (by decide) dX8_weightOfFits_45 ⟨_, rfl, rfl, ⟨(by rw [show (D 0 7).toNat = x3_2.toInt.toNat by omega]; exact v3_2), (by omega)⟩⟩
    · refine r_aload_n hC dX8_weightOfFits_15 0 rfl ?_
      refine r_iload_n hC dX8_weightOfFits_16 2 rfl ?_
      refine r_callV hC (As := [.int x3_2]) (rest := []) (ci := 8) (f_X8_isFit g (xL X) K len I J R hs a0 ka0 x3_2 h hh kh lk hlk2 klk rd hrd krd lv hlv klv llv kn hkn kkn lkn cr hcr kcr1 lcr hu D E hc N (by rw [hF.get krd rfl]; exact hN) mf hmf kmf lmf mff (by omega) (by omega)) mT_4_7 mT_1_1 mT_4_4 mT_4_6 mP_35 okX8_isFit ⟨by decide, by decide⟩ rfl (by show kO (K a0) = _; rw [ka0]; rfl) rfl rfl (Nat.le_of_ble_eq_true rfl) ⟨by decide, by decide⟩ dX8_weightOfFits_17 (aI0 (F := fun st M => P g X 3 20 [(0, .ref a0), (1, .int x3_1), (2, .int x3_2)] st _ _ M) (M := (K, len, I, J, R)) fun x6_ h6 => ?_)
      have k6_0 := h6
      clear h6
      show P g X 3 20 [(0, .ref a0), (1, .int x3_1), (2, .int x3_2)] [.int x6_] _ _ (K, len, I, J, R)
      refine r_if_eq hC (tgt := 38) dX8_weightOfFits_20 (by decide) (fun c7 => ?_) (fun c7 => ?_)
      · obtain ⟨x8_, e8⟩ : ∃ z : Int32, z = x3_2 + Int32.ofInt (1) := ⟨_, rfl⟩
        refine r_iinc hC (j := 2) (v := x8_) (lv' := [(2, .int x8_), (0, .ref a0), (1, .int x3_1)]) dX8_weightOfFits_38 rfl (by rw [e8]) (by decide) rfl ?_
        try have t8 : x8_.toInt = x3_2.toInt + (1) := by rw [e8]; exact (ti_add (b := Int32.ofInt (1)) (by show _ ≤ _ + (1 : Int); omega) (by show _ + (1 : Int) ≤ _; omega))
        refine r_goto hC (tgt := 4) dX8_weightOfFits_41 (by decide) ?_
        refine r_sub [1, 2, 0] rfl ?_
        exact ih3 ((6 - x8_.toInt).toNat) (by omega) x8_ x3_1 (by omega) (by omega) (by first | (rw [show x8_.toInt.toNat = 0 by omega]; show _ = (0 : Int); omega) | (rw [show x8_.toInt.toNat = x3_2.toInt.toNat + 1 by omega, Wf_t (by omega)]; omega) | (rw [show x8_.toInt.toNat = x3_2.toInt.toNat + 1 by omega, Wf_n (by omega)]; omega)) (by omega) rfl
      · refine r_iload_n hC dX8_weightOfFits_23 1 rfl ?_
        refine r_aload_n hC dX8_weightOfFits_24 0 rfl ?_
        refine r_getr hC 2 (ci := 8) rfl u8_in (by decide) mT_2_80 dX8_weightOfFits_25 ka0 rfl rfl hh ?_
        obtain ⟨a9_, hb9, hk9, hn9⟩ := hs.row kh 7 45 6 (by decide) (by decide)
        refine r_getr hC 7 (ci := 1) rfl u1_in (by decide) mT_1_205 dX8_weightOfFits_28 kh rfl rfl hb9 ?_
        refine r_iload_n hC dX8_weightOfFits_31 2 rfl ?_
        obtain ⟨a10_, hb10, hk10⟩ := hs.sto hk9 (i := x3_2) (by omega) (by omega)
        refine x_aaload (C := "HillTap$Story") hC hk9 hn9 (by decide) rfl (by decide) dX8_weightOfFits_32 (by omega) (by omega) hb10 ?_
        refine r_geti hC 0 (ci := 4) rfl u4_in (by decide) mT_1_161 dX8_weightOfFits_33 hk10 rfl rfl (fun x11_ e11 => ?_)
        have f11 : x11_.toInt = (I a10_ 0).toInt := by rw [e11]
        have q11 : x11_.toInt = D 6 x3_2.toInt.toNat := by rw [e11]; exact (hc.sto hb9 (by rw [← clx (i := x3_2) rfl (by omega)]; exact hb10) (by omega) (by omega)).1
        have jb11 : 0 ≤ D 6 x3_2.toInt.toNat ∧ D 6 x3_2.toInt.toNat ≤ 99 := ((hc.2.2.1 (by omega)).1).2.2.2.1 6 _ (by decide) (by decide) (by decide)
        refine r_iadd hC dX8_weightOfFits_36 (fun x12_ e12 => ?_)
        try have t12 : x12_.toInt = x3_1.toInt + x11_.toInt := by rw [e12]; exact ti_add (by omega) (by omega)
        refine r_istore_n hC (lv' := [(1, .int x12_), (0, .ref a0), (2, .int x3_2)]) dX8_weightOfFits_37 (by decide) rfl ?_
        obtain ⟨x13_, e13⟩ : ∃ z : Int32, z = x3_2 + Int32.ofInt (1) := ⟨_, rfl⟩
        refine r_iinc hC (j := 2) (v := x13_) (lv' := [(2, .int x13_), (1, .int x12_), (0, .ref a0)]) dX8_weightOfFits_38 rfl (by rw [e13]) (by decide) rfl ?_
        try have t13 : x13_.toInt = x3_2.toInt + (1) := by rw [e13]; exact (ti_add (b := Int32.ofInt (1)) (by show _ ≤ _ + (1 : Int); omega) (by show _ + (1 : Int) ≤ _; omega))
        refine r_goto hC (tgt := 4) dX8_weightOfFits_41 (by decide) ?_
        refine r_sub [2, 1, 0] rfl ?_
        exact ih3 ((6 - x13_.toInt).toNat) (by omega) x13_ x12_ (by omega) (by omega) (by first | (rw [show x13_.toInt.toNat = 0 by omega]; show _ = (0 : Int); omega) | (rw [show x13_.toInt.toNat = x3_2.toInt.toNat + 1 by omega, Wf_t (by omega)]; omega) | (rw [show x13_.toInt.toNat = x3_2.toInt.toNat + 1 by omega, Wf_n (by omega)]; omega)) (by omega) rfl
  refine r_sub [2, 1, 0] rfl ?_
  exact LP3 _ x2_ x1_ (by omega) (by omega) (by first | (rw [show x2_.toInt.toNat = 0 by omega]; show _ = (0 : Int); omega) | (rw [show x2_.toInt.toNat = x3_2.toInt.toNat + 1 by omega, Wf_t (by omega)]; omega) | (rw [show x2_.toInt.toNat = x3_2.toInt.toNat + 1 by omega, Wf_n (by omega)]; omega)) (by omega) rfl
