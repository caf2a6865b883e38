def Rs (D : DD) (s d : Nat) (v w : Int) (p : Nat) : Int := if D 7 s = 4 ∧ 0 < d ∧ D 9 s ≤ v then 0 else max 0 (D 2 p - w)
def Sp (D : DD) (s : Nat) (A : Nat → Int) (d : Nat) (v w : Int) (p : Nat) : Int := max 0 (D 1 p + A d - Rs D s d v w p) / 10
def gs (v : Nat → Int) (d g : Int) : Nat → Int
  | 0 => g
  | p + 1 => if 100 ≤ v p then d else gs v d g p
def Cs (D : DD) (s : Nat) (A : Nat → Int) : Nat → (Nat → Int) × (Nat → Int) × (Nat → Int) × Int
  | 0 => (fun _ => 0, fun _ => 0, fun _ => 0, -2)
  | d + 1 => (fun p => if (Cs D s A d).2.2.2 = -2 then Sp D s A d ((Cs D s A d).1 p) ((Cs D s A d).2.2.1 p) p else 0,
      fun p => (Cs D s A d).2.1 p + (if (Cs D s A d).2.2.2 = -2 then Sp D s A d ((Cs D s A d).1 p) ((Cs D s A d).2.2.1 p) p else 0),
      fun p => (Cs D s A d).2.2.1 p + (if D 7 s = 3 ∧ D 9 s ≤ (Cs D s A d).2.1 p + (if (Cs D s A d).2.2.2 = -2 then Sp D s A d ((Cs D s A d).1 p) ((Cs D s A d).2.2.1 p) p else 0) then (if (Cs D s A d).2.2.2 = -2 then Sp D s A d ((Cs D s A d).1 p) ((Cs D s A d).2.2.1 p) p else 0) else 0),
      gs (fun p => if (Cs D s A d).2.2.2 = -2 then Sp D s A d ((Cs D s A d).1 p) ((Cs D s A d).2.2.1 p) p else 0) d (Cs D s A d).2.2.2 (D 0 5).toNat)
/-- the speed, the inches, the worn of peg p on day d; the day it is gone, behind n days -/
def SV (D : DD) (s : Nat) (A : Nat → Int) (d p : Nat) : Int := (Cs D s A (d + 1)).1 p
def NV (D : DD) (s : Nat) (A : Nat → Int) (d p : Nat) : Int := (Cs D s A (d + 1)).2.1 p
def WV (D : DD) (s : Nat) (A : Nat → Int) (d p : Nat) : Int := (Cs D s A (d + 1)).2.2.1 p
def GV (D : DD) (s : Nat) (A : Nat → Int) (n : Nat) : Int := (Cs D s A n).2.2.2
section CRS
variable {D : DD} {s d p : Nat} {A : Nat → Int}
theorem SV_eq : SV D s A d p = if GV D s A d = -2 then Sp D s A d ((Cs D s A d).1 p) ((Cs D s A d).2.2.1 p) p else 0 := rfl
theorem NV_eq : NV D s A d p = (Cs D s A d).2.1 p + SV D s A d p := rfl
theorem WV_eq : WV D s A d p = (Cs D s A d).2.2.1 p + (if D 7 s = 3 ∧ D 9 s ≤ NV D s A d p then SV D s A d p else 0) := rfl
theorem GV_s : GV D s A (d + 1) = gs (SV D s A d) d (GV D s A d) (D 0 5).toNat := rfl
theorem GV_0 : GV D s A 0 = -2 := rfl
theorem Rs_q {v w : Int} (h : D 7 s = 4 ∧ 0 < d ∧ D 9 s ≤ v) : Rs D s d v w p = 0 := by unfold Rs; rw [if_pos h]
theorem Rs_n {v w : Int} (h : ¬ (D 7 s = 4 ∧ 0 < d ∧ D 9 s ≤ v)) : Rs D s d v w p = max 0 (D 2 p - w) := by unfold Rs; rw [if_neg h]
theorem Sp_b {v w : Int} (hJ : DJ D) (hA : 0 ≤ A d ∧ A d ≤ 300000) (hw : 0 ≤ w) : 0 ≤ Sp D s A d v w p ∧ Sp D s A d v w p ≤ 30100 := by
  have h1 : 0 ≤ D 1 p ∧ D 1 p ≤ 999 := hJ.2.2.2.1 1 p (by decide) (by decide) (by decide)
  have h2 : 0 ≤ D 2 p ∧ D 2 p ≤ 999 := hJ.2.2.2.1 2 p (by decide) (by decide) (by decide)
  have h3 : 0 ≤ Rs D s d v w p ∧ Rs D s d v w p ≤ 999 := by unfold Rs; split <;> omega
  unfold Sp; omega
/-- speeds, inches, worn stay where they belong -/
theorem Cs_b (hJ : DJ D) (hA : ∀ d, 0 ≤ A d ∧ A d ≤ 300000) : ∀ d p, (0 ≤ (Cs D s A d).1 p ∧ (Cs D s A d).1 p ≤ 30100) ∧ (0 ≤ (Cs D s A d).2.1 p ∧ (Cs D s A d).2.1 p ≤ 30100 * d) ∧ (0 ≤ (Cs D s A d).2.2.1 p ∧ (Cs D s A d).2.2.1 p ≤ (Cs D s A d).2.1 p)
  | 0, p => ⟨⟨Int.le_refl _, by show (0 : Int) ≤ 30100; decide⟩, ⟨Int.le_refl _, by show (0 : Int) ≤ 30100 * ((0 : Nat) : Int); decide⟩, Int.le_refl _, Int.le_refl _⟩
  | d + 1, p => by
    obtain ⟨h1, h2, h3⟩ := Cs_b hJ hA d p
    have hs : 0 ≤ SV D s A d p ∧ SV D s A d p ≤ 30100 := by
      rw [SV_eq]; split
      · exact Sp_b hJ (hA d) h3.1
      · omega
    have e1 : (Cs D s A (d + 1)).1 p = SV D s A d p := rfl
    have e2 : (Cs D s A (d + 1)).2.1 p = (Cs D s A d).2.1 p + SV D s A d p := rfl
    have e3 : (Cs D s A (d + 1)).2.2.1 p = (Cs D s A d).2.2.1 p + (if D 7 s = 3 ∧ D 9 s ≤ NV D s A d p then SV D s A d p else 0) := rfl
    rw [e1, e2, e3]
    refine ⟨hs, ⟨by omega, ?_⟩, ?_, ?_⟩
    · have : ((d + 1 : Nat) : Int) = d + 1 := by omega
      rw [this]; omega
    · split <;> omega
    · split <;> omega
theorem Ad_b {L : Nat → Int} {wet : Int} (hJ : DJ D) (h6 : D 0 6 ≤ 6) (hs : (s : Int) < D 0 7) (hL : ∀ j, 0 ≤ L j ∧ L j ≤ 999) (d : Nat) : 0 ≤ Ad D s L wet d ∧ Ad D s L wet d ≤ 300000 := by
  have j8 := hJ.k8 s
  have jm := hJ.2.2.2.2.2.1 s hs
  have jst := hJ.2.2.2.2.1
  have hd := hL d
  by_cases c1 : D 7 s = 1
  · rw [Ad_1 c1]
    have hh := Hi_b (s := D 0 1) (c := 999) (L := L) (by omega) hL d
    have m := mul_b (a := D 8 s) (b := max 0 (L d - Hi (D 0 1) L d)) (A := 99) (B := 999) (C := 98901) (by decide) (by omega) (by omega) (by omega) (by omega)
    omega
  by_cases c2 : D 7 s = 2
  · rw [Ad_2 c2]
    have hp := Ps_b (f := fun j => if j < 60 then L j else 0) (c := 999) (fun j _ => by by_cases h : j < 60; simp only [if_pos h]; exact hL j; simp only [if_neg h]; decide) (n := 0) (m := 0) (Nat.le_refl _) (by decide)
    have hq : 0 ≤ Ps L (d + 1) - Ps L (d + 1 - (D 9 s).toNat) ∧ Ps L (d + 1) - Ps L (d + 1 - (D 9 s).toNat) ≤ 20 * 999 := by
      have h1 := Ps_mono (f := L) (fun j => (hL j).1) (n := d + 1 - (D 9 s).toNat) (m := d + 1) (by omega)
      have h2 := Ps_up (f := L) (c := 999) (fun j => (hL j).2) (d + 1 - (D 9 s).toNat) (d + 1 - (d + 1 - (D 9 s).toNat))
      rw [show d + 1 - (D 9 s).toNat + (d + 1 - (d + 1 - (D 9 s).toNat)) = d + 1 by omega] at h2
      have h3 := (jm.2.1 c2)
      omega
    have h3 := (jm.2.1 c2)
    have hq1 := Int.ediv_nonneg hq.1 (show 0 ≤ min (D 9 s) ((d : Int) + 1) by omega)
    have hq2 := Int.ediv_le_self (min (D 9 s) ((d : Int) + 1)) hq.1
    have m := mul_b (a := D 8 s) (b := (Ps L (d + 1) - Ps L (d + 1 - (D 9 s).toNat)) / min (D 9 s) ((d : Int) + 1)) (A := 99) (B := 19980) (C := 1978020) (by decide) (by omega) (by omega) hq1 (by omega)
    omega
  by_cases c5 : D 7 s = 5
  · by_cases hw : wet = 0
    · rw [Ad_5n c5 hw]; omega
    · rw [Ad_5 c5 hw]
      have h1 := Ps_mono (f := D 5) (fun j => (hJ.rn h6 j).1) (n := d + 1 - 5) (m := d + 1) (by omega)
      have h2 := Ps_up (f := D 5) (c := 594) (fun j => (hJ.rn h6 j).2) (d + 1 - 5) (d + 1 - (d + 1 - 5))
      rw [show d + 1 - 5 + (d + 1 - (d + 1 - 5)) = d + 1 by omega] at h2
      have m := mul_b (a := D 8 s) (b := Ps (D 5) (d + 1) - Ps (D 5) (d + 1 - 5)) (A := 99) (B := 2970) (C := 294030) (by decide) (by omega) (by omega) (by omega) (by omega)
      omega
  · rw [Ad_d ⟨c1, c2, c5⟩]
    have m := mul_b (a := D 8 s) (b := L d) (A := 99) (B := 999) (C := 98901) (by decide) (by omega) (by omega) (by omega) (by omega)
    omega
/-- the rows behind n days, and behind p pegs of the next -/
def CRi (D : DD) (s : Nat) (A : Nat → Int) (sr ir wr tr n p : Nat) (I : Nat → Nat → Int32) : Prop := (∀ d q : Nat, (d < n ∨ (d = n ∧ q < p)) → (q : Int) < D 0 5 → (I sr (60 * q + d)).toInt = SV D s A d q ∧ (I ir (60 * q + d)).toInt = NV D s A d q ∧ (I wr (60 * q + d)).toInt = WV D s A d q) ∧ (∀ j : Nat, j < n → (I tr j).toInt = Ps (SV D s A j) (D 0 5).toNat)
theorem CRi.peg {sr ir wr tr n p : Nat} {I I1 : Nat → Nat → Int32} (h : CRi D s A sr ir wr tr n p I) (hn : n < 60) (h1 : (I1 sr (60 * p + n)).toInt = SV D s A n p) (h2 : (I1 ir (60 * p + n)).toInt = NV D s A n p) (h3 : (I1 wr (60 * p + n)).toInt = WV D s A n p) (ho : ∀ b k, (b = sr ∨ b = ir ∨ b = wr) → k ≠ 60 * p + n → I1 b k = I b k) (ht : ∀ j, j < n → I1 tr j = I tr j) : CRi D s A sr ir wr tr n (p + 1) I1 := by
  refine ⟨fun d q hd hq => ?_, fun j hj => by rw [ht j hj]; exact h.2 j hj⟩
  by_cases hc : d = n ∧ q = p
  · obtain ⟨rfl, rfl⟩ := hc; exact ⟨h1, h2, h3⟩
  · have hne : 60 * q + d ≠ 60 * p + n := by omega
    rw [ho sr _ (Or.inl rfl) hne, ho ir _ (Or.inr (Or.inl rfl)) hne, ho wr _ (Or.inr (Or.inr rfl)) hne]
    exact h.1 d q (by omega) hq
theorem CRi.day {sr ir wr tr n p : Nat} {I : Nat → Nat → Int32} (h : CRi D s A sr ir wr tr n p I) (hp : D 0 5 ≤ (p : Int)) (ht : (I tr n).toInt = Ps (SV D s A n) (D 0 5).toNat) : CRi D s A sr ir wr tr (n + 1) 0 I := by
  refine ⟨fun d q hd hq => h.1 d q (by omega) hq, fun j hj => ?_⟩
  by_cases hjn : j = n
  · rw [hjn]; exact ht
  · exact h.2 j (by omega)
theorem gs_t {v : Nat → Int} {e g : Int} {p : Nat} (h : 100 ≤ v p) : gs v e g (p + 1) = e := by simp only [gs]; rw [if_pos h]
theorem gs_n {v : Nat → Int} {e g : Int} {p : Nat} (h : ¬ 100 ≤ v p) : gs v e g (p + 1) = gs v e g p := by simp only [gs]; rw [if_neg h]
end CRS
set_option maxHeartbeats 4000000 in
set_option maxRecDepth 100000 in
theorem f_X0_speedOf (g : GG) (l : Launch) (K len : Nat → Nat) (I : Nat → Nat → Int32) (J : Nat → Nat → Int64) (R : Nat → Nat → Option Nat) (hs : Sf K len I R) (a0 : Nat) (ka0 : K a0 = 1) (a1 : Nat) (ka1 : K a1 = 2) (a2 : Nat) (ka2 : K a2 = 5) (x3 : Int32) (x4 : Int32) (sr : Nat) (hsr : R a0 0 = some sr) (ksr : K sr = 50) (lsr : len sr = 300) (ir : Nat) (hir : R a0 1 = some ir) (kir : K ir = 51) (lir : len ir = 300) (wr : Nat) (hwr : R a0 2 = some wr) (kwr : K wr = 52) (lwr : len wr = 300) (dr : Nat) (hdr : R a0 4 = some dr) (kdr : K dr = 54) (ldr : len dr = 60) (lk : Nat) (D : DD) (hJ : DJ D) (rwd : RW (CC a1 lk R) (cntN D) D I) (s : Nat) (hsk : (s : Int) < D 0 7) (k7 : (I a2 1).toInt = D 7 s) (k9 : D 7 s = 2 ∨ D 7 s = 3 ∨ D 7 s = 4 → (I a2 3).toInt = D 9 s) (A : Nat → Int) (hA : ∀ j : Nat, j < 60 → (I dr j).toInt = A j ∧ 0 ≤ A j ∧ A j ≤ 300000) (v : Int) (w : Int) (hvw : (0 ≤ v ∧ v ≤ 30100) ∧ 0 ≤ w ∧ w ≤ 2000000) (h0 : x4.toInt = 0 → v = 0 ∧ w = 0) (hv : 0 < x4.toInt → (I sr (60 * x3.toInt.toNat + x4.toInt.toNat - 1)).toInt = v) (hw : 0 < x4.toInt → (I wr (60 * x3.toInt.toNat + x4.toInt.toNat - 1)).toInt = w) (hp : x3.toInt < D 0 5) (p0 : 0 ≤ x3.toInt) (p1 : x3.toInt ≤ 4) (p2 : 0 ≤ x4.toInt) (p3 : x4.toInt ≤ 59) : Ct g l yX0_speedOf cX0_speedOf 8 (Option.some Jvm.ClassFile.FieldType.int) rmX0_speedOf [.ref a0, .ref a1, .ref a2, .int x3, .int x4] (K, len, I, J, R) (pI0 (K, len, I, J, R) (fun r => (r.toInt = Sp D s A x4.toInt.toNat v w x3.toInt.toNat))) := by
  refine Ct_intro (by decide +kernel) (Nat.le_of_ble_eq_true rfl) (fun X hC hL hKK hNm hr hlk hQ => ?_)
  subst hL
  have hC : Cx g X cX0_speedOf "HillTap$Course" 8 rmX0_speedOf := hC
  show P g X 8 0 [(0, .ref a0), (1, .ref a1), (2, .ref a2), (3, .int x3), (4, .int x4)] [] 0 0 (K, len, I, J, R)
  have hF : Fr K [] I I := Fr.refl
  have j1 : 0 ≤ D 1 x3.toInt.toNat ∧ D 1 x3.toInt.toNat ≤ 999 := hJ.2.2.2.1 1 _ (by decide) (by decide) (by decide)
  have j2 : 0 ≤ D 2 x3.toInt.toNat ∧ D 2 x3.toInt.toNat ≤ 999 := hJ.2.2.2.1 2 _ (by decide) (by decide) (by decide)
  have jm := hJ.2.2.2.2.2.1 s hsk
  have b_x3 := ti_rng x3
  have b_x4 := ti_rng x4
  refine r_iload_n hC dX0_speedOf_0 3 rfl ?_
  refine r_iload hC dX0_speedOf_1 4 rfl ?_
  refine r_callSN hC (As := [.int x3, .int x4]) (rest := []) (c_X8_row g (xL X) K len I J R hs x3 x4 (by omega) (by omega) (by omega) (by omega)) mT_3_192 mT_1_1 nM_5 mT_3_191 okX8_row ⟨by decide, by decide⟩ rfl rfl (Nat.le_of_ble_eq_true rfl) ⟨by decide, by decide⟩ dX0_speedOf_3 (aI0 (F := fun st M => P g X 8 6 [(0, .ref a0), (1, .ref a1), (2, .ref a2), (3, .int x3), (4, .int x4)] st _ _ M) (M := (K, len, I, J, R)) fun x1_ h1 => ?_)
  have k1_0 := h1
  clear h1
  show P g X 8 6 [(0, .ref a0), (1, .ref a1), (2, .ref a2), (3, .int x3), (4, .int x4)] [.int x1_] _ _ (K, len, I, J, R)
  refine r_istore hC (lv' := [(5, .int x1_), (0, .ref a0), (1, .ref a1), (2, .ref a2), (3, .int x3), (4, .int x4)]) dX0_speedOf_6 (by decide) rfl ?_
  refine r_iload hC dX0_speedOf_8 5 rfl ?_
  refine r_if_le hC (tgt := 25) dX0_speedOf_10 (by decide) (fun c2 => ?_) (fun c2 => ?_)
  · refine r_iconst hC (v := (0)) dX0_speedOf_25 (by decide) (by decide) (fun x3_ e3 t3 => ?_)
    refine r_istore hC (lv' := [(6, .int x3_), (5, .int x1_), (0, .ref a0), (1, .ref a1), (2, .ref a2), (3, .int x3), (4, .int x4)]) dX0_speedOf_26 (by decide) rfl ?_
    refine r_iconst hC (v := (0)) dX0_speedOf_28 (by decide) (by decide) (fun x4_ e4 t4 => ?_)
    refine r_aload_n hC dX0_speedOf_29 3 rfl ?_
    obtain ⟨a5_, hb5, hk5, hn5⟩ := hs.row ka1 3 56 5 (by decide) (by decide)
    refine r_getr hC 3 (ci := 1) rfl u1_in (by decide) mT_1_192 dX0_speedOf_30 ka1 rfl rfl hb5 ?_
    refine r_iload_n hC dX0_speedOf_33 5 rfl ?_
    refine x_iaload hC hk5 hn5 (by decide) rfl rfl dX0_speedOf_34 (by omega) (by omega) (fun x6_ e6 => ?_)
    have qbed : x6_.toInt = D 2 x3.toInt.toNat := by rw [e6, clx (i := x3) rfl (by omega)]; exact rwd 2 _ _ _ (cCt (r := 2) rfl hb5) (by rw [cnt_2]; omega) (fun h9 => absurd h9 (by decide))
    refine r_iload hC dX0_speedOf_35 0 rfl ?_
    refine r_isub hC dX0_speedOf_37 (fun x7_ e7 => ?_)
    try have t7 : x7_.toInt = x6_.toInt - x3_.toInt := by rw [e7]; exact ti_sub (by omega) (by omega)
    refine r_mmax hC mT_3_176 mT_3_11 mT_1_12 mT_3_12 (by decide) (Nat.le_of_ble_eq_true rfl) (Nat.zero_le _) (Nat.zero_le _) dX0_speedOf_38 (fun x8_ e8 t8a t8b t8c => ?_)
    refine r_istore hC (lv' := [(7, .int x8_), (6, .int x3_), (5, .int x1_), (0, .ref a0), (1, .ref a1), (2, .ref a2), (3, .int x3), (4, .int x4)]) dX0_speedOf_41 (by decide) rfl ?_
    refine r_aload_n hC dX0_speedOf_43 5 rfl ?_
    refine r_geti hC 1 (ci := 4) rfl u4_in (by decide) mT_1_163 dX0_speedOf_44 ka2 rfl rfl (fun x9_ e9 => ?_)
    have f9 : x9_.toInt = (I a2 1).toInt := by rw [e9]
    refine r_iconst hC (v := (4)) dX0_speedOf_47 (by decide) (by decide) (fun x10_ e10 t10 => ?_)
    refine r_icmp_ne hC (tgt := 75) dX0_speedOf_48 (by decide) (fun c11 => ?_) (fun c11 => ?_)
    · refine r_iconst hC (v := (0)) dX0_speedOf_75 (by decide) (by decide) (fun x12_ e12 t12 => ?_)
      refine r_aload_n hC dX0_speedOf_76 4 rfl ?_
      obtain ⟨a13_, hb13, hk13, hn13⟩ := hs.row ka1 2 55 5 (by decide) (by decide)
      refine r_getr hC 2 (ci := 1) rfl u1_in (by decide) mT_1_190 dX0_speedOf_77 ka1 rfl rfl hb13 ?_
      refine r_iload_n hC dX0_speedOf_80 6 rfl ?_
      refine x_iaload hC hk13 hn13 (by decide) rfl rfl dX0_speedOf_81 (by omega) (by omega) (fun x14_ e14 => ?_)
      have qpush : x14_.toInt = D 1 x3.toInt.toNat := by rw [e14, clx (i := x3) rfl (by omega)]; exact rwd 1 _ _ _ (cCt (r := 1) rfl hb13) (by rw [cnt_1]; omega) (fun h9 => absurd h9 (by decide))
      refine r_aload_n hC dX0_speedOf_82 3 rfl ?_
      refine r_getr hC 4 (ci := 0) rfl u0_in (by decide) mT_2_34 dX0_speedOf_83 ka0 rfl rfl hdr ?_
      refine r_iload hC dX0_speedOf_86 7 rfl ?_
      refine x_iaload hC kdr ldr (by decide) rfl rfl dX0_speedOf_88 (by omega) (by omega) (fun x15_ e15 => ?_)
      have ql15 := hA x4.toInt.toNat (by omega)
      have qv15 : x15_.toInt = A x4.toInt.toNat := by rw [e15, hF.get kdr rfl, clx (i := x4) rfl (by omega)]; exact ql15.1
      refine r_iadd hC dX0_speedOf_89 (fun x16_ e16 => ?_)
      try have t16 : x16_.toInt = x14_.toInt + x15_.toInt := by rw [e16]; exact ti_add (by omega) (by omega)
      refine r_iload hC dX0_speedOf_90 0 rfl ?_
      refine r_isub hC dX0_speedOf_92 (fun x17_ e17 => ?_)
      try have t17 : x17_.toInt = x16_.toInt - x8_.toInt := by rw [e17]; exact ti_sub (by omega) (by omega)
      refine r_mmax hC mT_3_176 mT_3_11 mT_1_12 mT_3_12 (by decide) (Nat.le_of_ble_eq_true rfl) (Nat.zero_le _) (Nat.zero_le _) dX0_speedOf_93 (fun x18_ e18 t18a t18b t18c => ?_)
      refine r_bipush hC (v := (10)) dX0_speedOf_96 (by decide) (by decide) (fun x19_ e19 t19 => ?_)
      refine r_idiv hC dX0_speedOf_98 (ne_0 (by omega)) (fun x20_ e20 => ?_)
      have td20 : x20_.toInt = x18_.toInt / 10 := by rw [e20, ti_div (by omega) (by omega), show x19_.toInt = 10 by omega]
      exact r_iret hC hQ hlk hr rfl (by decide) (by decide) dX0_speedOf_99 ⟨_, rfl, rfl, (by unfold Sp; first | (rw [Rs_q ⟨by omega, by omega, by omega⟩]; omega) | (rw [Rs_n (fun h9 => by have h8 := h9.1; have h7 := h9.2.1; have h6 := h9.2.2; omega)]; omega))⟩
    · refine r_iload hC dX0_speedOf_51 7 rfl ?_
      refine r_if_le hC (tgt := 75) dX0_speedOf_53 (by decide) (fun c21 => ?_) (fun c21 => ?_)
      · refine r_iconst hC (v := (0)) dX0_speedOf_75 (by decide) (by decide) (fun x22_ e22 t22 => ?_)
        refine r_aload_n hC dX0_speedOf_76 4 rfl ?_
        obtain ⟨a23_, hb23, hk23, hn23⟩ := hs.row ka1 2 55 5 (by decide) (by decide)
        refine r_getr hC 2 (ci := 1) rfl u1_in (by decide) mT_1_190 dX0_speedOf_77 ka1 rfl rfl hb23 ?_
        refine r_iload_n hC dX0_speedOf_80 6 rfl ?_
        refine x_iaload hC hk23 hn23 (by decide) rfl rfl dX0_speedOf_81 (by omega) (by omega) (fun x24_ e24 => ?_)
        have qpush : x24_.toInt = D 1 x3.toInt.toNat := by rw [e24, clx (i := x3) rfl (by omega)]; exact rwd 1 _ _ _ (cCt (r := 1) rfl hb23) (by rw [cnt_1]; omega) (fun h9 => absurd h9 (by decide))
        refine r_aload_n hC dX0_speedOf_82 3 rfl ?_
        refine r_getr hC 4 (ci := 0) rfl u0_in (by decide) mT_2_34 dX0_speedOf_83 ka0 rfl rfl hdr ?_
        refine r_iload hC dX0_speedOf_86 7 rfl ?_
        refine x_iaload hC kdr ldr (by decide) rfl rfl dX0_speedOf_88 (by omega) (by omega) (fun x25_ e25 => ?_)
        have ql25 := hA x4.toInt.toNat (by omega)
        have qv25 : x25_.toInt = A x4.toInt.toNat := by rw [e25, hF.get kdr rfl, clx (i := x4) rfl (by omega)]; exact ql25.1
        refine r_iadd hC dX0_speedOf_89 (fun x26_ e26 => ?_)
        try have t26 : x26_.toInt = x24_.toInt + x25_.toInt := by rw [e26]; exact ti_add (by omega) (by omega)
        refine r_iload hC dX0_speedOf_90 0 rfl ?_
        refine r_isub hC dX0_speedOf_92 (fun x27_ e27 => ?_)
        try have t27 : x27_.toInt = x26_.toInt - x8_.toInt := by rw [e27]; exact ti_sub (by omega) (by omega)
        refine r_mmax hC mT_3_176 mT_3_11 mT_1_12 mT_3_12 (by decide) (Nat.le_of_ble_eq_true rfl) (Nat.zero_le _) (Nat.zero_le _) dX0_speedOf_93 (fun x28_ e28 t28a t28b t28c => ?_)
        refine r_bipush hC (v := (10)) dX0_speedOf_96 (by decide) (by decide) (fun x29_ e29 t29 => ?_)
        refine r_idiv hC dX0_speedOf_98 (ne_0 (by omega)) (fun x30_ e30 => ?_)
        have td30 : x30_.toInt = x28_.toInt / 10 := by rw [e30, ti_div (by omega) (by omega), show x29_.toInt = 10 by omega]
        exact r_iret hC hQ hlk hr rfl (by decide) (by decide) dX0_speedOf_99 ⟨_, rfl, rfl, (by unfold Sp; first | (rw [Rs_q ⟨by omega, by omega, by omega⟩]; omega) | (rw [Rs_n (fun h9 => by have h8 := h9.1; have h7 := h9.2.1; have h6 := h9.2.2; omega)]; omega))⟩
      · refine r_aload_n hC dX0_speedOf_56 3 rfl ?_
        refine r_getr hC 0 (ci := 0) rfl u0_in (by decide) mT_2_25 dX0_speedOf_57 ka0 rfl rfl hsr ?_
        refine r_iload hC dX0_speedOf_60 2 rfl ?_
        refine r_iconst hC (v := (1)) dX0_speedOf_62 (by decide) (by decide) (fun x31_ e31 t31 => ?_)
        refine r_isub hC dX0_speedOf_63 (fun x32_ e32 => ?_)
        try have t32 : x32_.toInt = x1_.toInt - x31_.toInt := by rw [e32]; exact ti_sub (by omega) (by omega)
        refine x_iaload hC ksr lsr (by decide) rfl rfl dX0_speedOf_64 (by omega) (by omega) (fun x33_ e33 => ?_)
        have qs : x33_.toInt = v := by rw [e33, clx (i := x32_) rfl (by omega), show x32_.toInt.toNat = 60 * x3.toInt.toNat + x4.toInt.toNat - 1 by omega]; exact hv (by omega)
        refine r_aload_n hC dX0_speedOf_65 5 rfl ?_
        refine r_geti hC 3 (ci := 4) rfl u4_in (by decide) mT_1_169 dX0_speedOf_66 ka2 rfl rfl (fun x34_ e34 => ?_)
        have f34 : x34_.toInt = (I a2 3).toInt := by rw [e34]
        have k94 := k9 (Or.inr (Or.inr (by omega)))
        refine r_icmp_lt hC (tgt := 75) dX0_speedOf_69 (by decide) (fun c35 => ?_) (fun c35 => ?_)
        · refine r_iconst hC (v := (0)) dX0_speedOf_75 (by decide) (by decide) (fun x36_ e36 t36 => ?_)
          refine r_aload_n hC dX0_speedOf_76 4 rfl ?_
          obtain ⟨a37_, hb37, hk37, hn37⟩ := hs.row ka1 2 55 5 (by decide) (by decide)
          refine r_getr hC 2 (ci := 1) rfl u1_in (by decide) mT_1_190 dX0_speedOf_77 ka1 rfl rfl hb37 ?_
          refine r_iload_n hC dX0_speedOf_80 6 rfl ?_
          refine x_iaload hC hk37 hn37 (by decide) rfl rfl dX0_speedOf_81 (by omega) (by omega) (fun x38_ e38 => ?_)
          have qpush : x38_.toInt = D 1 x3.toInt.toNat := by rw [e38, clx (i := x3) rfl (by omega)]; exact rwd 1 _ _ _ (cCt (r := 1) rfl hb37) (by rw [cnt_1]; omega) (fun h9 => absurd h9 (by decide))
          refine r_aload_n hC dX0_speedOf_82 3 rfl ?_
          refine r_getr hC 4 (ci := 0) rfl u0_in (by decide) mT_2_34 dX0_speedOf_83 ka0 rfl rfl hdr ?_
          refine r_iload hC dX0_speedOf_86 7 rfl ?_
          refine x_iaload hC kdr ldr (by decide) rfl rfl dX0_speedOf_88 (by omega) (by omega) (fun x39_ e39 => ?_)
          have ql39 := hA x4.toInt.toNat (by omega)
          have qv39 : x39_.toInt = A x4.toInt.toNat := by rw [e39, hF.get kdr rfl, clx (i := x4) rfl (by omega)]; exact ql39.1
          refine r_iadd hC dX0_speedOf_89 (fun x40_ e40 => ?_)
          try have t40 : x40_.toInt = x38_.toInt + x39_.toInt := by rw [e40]; exact ti_add (by omega) (by omega)
          refine r_iload hC dX0_speedOf_90 0 rfl ?_
          refine r_isub hC dX0_speedOf_92 (fun x41_ e41 => ?_)
          try have t41 : x41_.toInt = x40_.toInt - x8_.toInt := by rw [e41]; exact ti_sub (by omega) (by omega)
          refine r_mmax hC mT_3_176 mT_3_11 mT_1_12 mT_3_12 (by decide) (Nat.le_of_ble_eq_true rfl) (Nat.zero_le _) (Nat.zero_le _) dX0_speedOf_93 (fun x42_ e42 t42a t42b t42c => ?_)
          refine r_bipush hC (v := (10)) dX0_speedOf_96 (by decide) (by decide) (fun x43_ e43 t43 => ?_)
          refine r_idiv hC dX0_speedOf_98 (ne_0 (by omega)) (fun x44_ e44 => ?_)
          have td44 : x44_.toInt = x42_.toInt / 10 := by rw [e44, ti_div (by omega) (by omega), show x43_.toInt = 10 by omega]
          exact r_iret hC hQ hlk hr rfl (by decide) (by decide) dX0_speedOf_99 ⟨_, rfl, rfl, (by unfold Sp; first | (rw [Rs_q ⟨by omega, by omega, by omega⟩]; omega) | (rw [Rs_n (fun h9 => by have h8 := h9.1; have h7 := h9.2.1; have h6 := h9.2.2; omega)]; omega))⟩
        · refine r_iconst hC (v := (0)) dX0_speedOf_72 (by decide) (by decide) (fun x45_ e45 t45 => ?_)
          refine r_istore hC (lv' := [(7, .int x45_), (6, .int x3_), (5, .int x1_), (0, .ref a0), (1, .ref a1), (2, .ref a2), (3, .int x3), (4, .int x4)]) dX0_speedOf_73 (by decide) rfl ?_
          refine r_iconst hC (v := (0)) dX0_speedOf_75 (by decide) (by decide) (fun x46_ e46 t46 => ?_)
          refine r_aload_n hC dX0_speedOf_76 4 rfl ?_
          obtain ⟨a47_, hb47, hk47, hn47⟩ := hs.row ka1 2 55 5 (by decide) (by decide)
          refine r_getr hC 2 (ci := 1) rfl u1_in (by decide) mT_1_190 dX0_speedOf_77 ka1 rfl rfl hb47 ?_
          refine r_iload_n hC dX0_speedOf_80 6 rfl ?_
          refine x_iaload hC hk47 hn47 (by decide) rfl rfl dX0_speedOf_81 (by omega) (by omega) (fun x48_ e48 => ?_)
          have qpush : x48_.toInt = D 1 x3.toInt.toNat := by rw [e48, clx (i := x3) rfl (by omega)]; exact rwd 1 _ _ _ (cCt (r := 1) rfl hb47) (by rw [cnt_1]; omega) (fun h9 => absurd h9 (by decide))
          refine r_aload_n hC dX0_speedOf_82 3 rfl ?_
          refine r_getr hC 4 (ci := 0) rfl u0_in (by decide) mT_2_34 dX0_speedOf_83 ka0 rfl rfl hdr ?_
          refine r_iload hC dX0_speedOf_86 7 rfl ?_
          refine x_iaload hC kdr ldr (by decide) rfl rfl dX0_speedOf_88 (by omega) (by omega) (fun x49_ e49 => ?_)
          have ql49 := hA x4.toInt.toNat (by omega)
          have qv49 : x49_.toInt = A x4.toInt.toNat := by rw [e49, hF.get kdr rfl, clx (i := x4) rfl (by omega)]; exact ql49.1
          refine r_iadd hC dX0_speedOf_89 (fun x50_ e50 => ?_)
          try have t50 : x50_.toInt = x48_.toInt + x49_.toInt := by rw [e50]; exact ti_add (by omega) (by omega)
          refine r_iload hC dX0_speedOf_90 0 rfl ?_
          refine r_isub hC dX0_speedOf_92 (fun x51_ e51 => ?_)
          try have t51 : x51_.toInt = x50_.toInt - x45_.toInt := by rw [e51]; exact ti_sub (by omega) (by omega)
          refine r_mmax hC mT_3_176 mT_3_11 mT_1_12 mT_3_12 (by decide) (Nat.le_of_ble_eq_true rfl) (Nat.zero_le _) (Nat.zero_le _) dX0_speedOf_93 (fun x52_ e52 t52a t52b t52c => ?_)
          refine r_bipush hC (v := (10)) dX0_speedOf_96 (by decide) (by decide) (fun x53_ e53 t53 => ?_)
          refine r_idiv hC dX0_speedOf_98 (ne_0 (by omega)) (fun x54_ e54 => ?_)
          have td54 : x54_.toInt = x52_.toInt / 10 := by rw [e54, ti_div (by omega) (by omega), show x53_.toInt = 10 by omega]
          exact r_iret hC hQ hlk hr rfl (by decide) (by decide) dX0_speedOf_99 ⟨_, rfl, rfl, (by unfold Sp; first | (rw [Rs_q ⟨by omega, by omega, by omega⟩]; omega) | (rw [Rs_n (fun h9 => by have h8 := h9.1; have h7 := h9.2.1; have h6 := h9.2.2; omega)]; omega))⟩
  · refine r_aload_n hC dX0_speedOf_13 1 rfl ?_
    refine r_getr hC 2 (ci := 0) rfl u0_in (by decide) mT_2_30 dX0_speedOf_14 ka0 rfl rfl hwr ?_
    refine r_iload hC dX0_speedOf_17 0 rfl ?_
    refine r_iconst hC (v := (1)) dX0_speedOf_19 (by decide) (by decide) (fun x55_ e55 t55 => ?_)
    refine r_isub hC dX0_speedOf_20 (fun x56_ e56 => ?_)
    try have t56 : x56_.toInt = x1_.toInt - x55_.toInt := by rw [e56]; exact ti_sub (by omega) (by omega)
    refine x_iaload hC kwr lwr (by decide) rfl rfl dX0_speedOf_21 (by omega) (by omega) (fun x57_ e57 => ?_)
    have qw : x57_.toInt = w := by rw [e57, clx (i := x56_) rfl (by omega), show x56_.toInt.toNat = 60 * x3.toInt.toNat + x4.toInt.toNat - 1 by omega]; exact hw (by omega)
    refine r_goto hC (tgt := 26) dX0_speedOf_22 (by decide) ?_
    refine r_istore hC (lv' := [(6, .int x57_), (5, .int x1_), (0, .ref a0), (1, .ref a1), (2, .ref a2), (3, .int x3), (4, .int x4)]) dX0_speedOf_26 (by decide) rfl ?_
    refine r_iconst hC (v := (0)) dX0_speedOf_28 (by decide) (by decide) (fun x58_ e58 t58 => ?_)
    refine r_aload_n hC dX0_speedOf_29 3 rfl ?_
    obtain ⟨a59_, hb59, hk59, hn59⟩ := hs.row ka1 3 56 5 (by decide) (by decide)
    refine r_getr hC 3 (ci := 1) rfl u1_in (by decide) mT_1_192 dX0_speedOf_30 ka1 rfl rfl hb59 ?_
    refine r_iload_n hC dX0_speedOf_33 5 rfl ?_
    refine x_iaload hC hk59 hn59 (by decide) rfl rfl dX0_speedOf_34 (by omega) (by omega) (fun x60_ e60 => ?_)
    have qbed : x60_.toInt = D 2 x3.toInt.toNat := by rw [e60, clx (i := x3) rfl (by omega)]; exact rwd 2 _ _ _ (cCt (r := 2) rfl hb59) (by rw [cnt_2]; omega) (fun h9 => absurd h9 (by decide))
    refine r_iload hC dX0_speedOf_35 0 rfl ?_
    refine r_isub hC dX0_speedOf_37 (fun x61_ e61 => ?_)
    try have t61 : x61_.toInt = x60_.toInt - x57_.toInt := by rw [e61]; exact ti_sub (by omega) (by omega)
    refine r_mmax hC mT_3_176 mT_3_11 mT_1_12 mT_3_12 (by decide) (Nat.le_of_ble_eq_true rfl) (Nat.zero_le _) (Nat.zero_le _) dX0_speedOf_38 (fun x62_ e62 t62a t62b t62c => ?_)
    refine r_istore hC (lv' := [(7, .int x62_), (6, .int x57_), (5, .int x1_), (0, .ref a0), (1, .ref a1), (2, .ref a2), (3, .int x3), (4, .int x4)]) dX0_speedOf_41 (by decide) rfl ?_
    refine r_aload_n hC dX0_speedOf_43 5 rfl ?_
    refine r_geti hC 1 (ci := 4) rfl u4_in (by decide) mT_1_163 dX0_speedOf_44 ka2 rfl rfl (fun x63_ e63 => ?_)
    have f63 : x63_.toInt = (I a2 1).toInt := by rw [e63]
    refine r_iconst hC (v := (4)) dX0_speedOf_47 (by decide) (by decide) (fun x64_ e64 t64 => ?_)
    refine r_icmp_ne hC (tgt := 75) dX0_speedOf_48 (by decide) (fun c65 => ?_) (fun c65 => ?_)
    · refine r_iconst hC (v := (0)) dX0_speedOf_75 (by decide) (by decide) (fun x66_ e66 t66 => ?_)
      refine r_aload_n hC dX0_speedOf_76 4 rfl ?_
      obtain ⟨a67_, hb67, hk67, hn67⟩ := hs.row ka1 2 55 5 (by decide) (by decide)
      refine r_getr hC 2 (ci := 1) rfl u1_in (by decide) mT_1_190 dX0_speedOf_77 ka1 rfl rfl hb67 ?_
      refine r_iload_n hC dX0_speedOf_80 6 rfl ?_
      refine x_iaload hC hk67 hn67 (by decide) rfl rfl dX0_speedOf_81 (by omega) (by omega) (fun x68_ e68 => ?_)
      have qpush : x68_.toInt = D 1 x3.toInt.toNat := by rw [e68, clx (i := x3) rfl (by omega)]; exact rwd 1 _ _ _ (cCt (r := 1) rfl hb67) (by rw [cnt_1]; omega) (fun h9 => absurd h9 (by decide))
      refine r_aload_n hC dX0_speedOf_82 3 rfl ?_
      refine r_getr hC 4 (ci := 0) rfl u0_in (by decide) mT_2_34 dX0_speedOf_83 ka0 rfl rfl hdr ?_
      refine r_iload hC dX0_speedOf_86 7 rfl ?_
      refine x_iaload hC kdr ldr (by decide) rfl rfl dX0_speedOf_88 (by omega) (by omega) (fun x69_ e69 => ?_)
      have ql69 := hA x4.toInt.toNat (by omega)
      have qv69 : x69_.toInt = A x4.toInt.toNat := by rw [e69, hF.get kdr rfl, clx (i := x4) rfl (by omega)]; exact ql69.1
      refine r_iadd hC dX0_speedOf_89 (fun x70_ e70 => ?_)
      try have t70 : x70_.toInt = x68_.toInt + x69_.toInt := by rw [e70]; exact ti_add (by omega) (by omega)
      refine r_iload hC dX0_speedOf_90 0 rfl ?_
      refine r_isub hC dX0_speedOf_92 (fun x71_ e71 => ?_)
      try have t71 : x71_.toInt = x70_.toInt - x62_.toInt := by rw [e71]; exact ti_sub (by omega) (by omega)
      refine r_mmax hC mT_3_176 mT_3_11 mT_1_12 mT_3_12 (by decide) (Nat.le_of_ble_eq_true rfl) (Nat.zero_le _) (Nat.zero_le _) dX0_speedOf_93 (fun x72_ e72 t72a t72b t72c => ?_)
      refine r_bipush hC (v := (10)) dX0_speedOf_96 (by decide) (by decide) (fun x73_ e73 t73 => ?_)
      refine r_idiv hC dX0_speedOf_98 (ne_0 (by omega)) (fun x74_ e74 => ?_)
      have td74 : x74_.toInt = x72_.toInt / 10 := by rw [e74, ti_div (by omega) (by omega), show x73_.toInt = 10 by omega]
      exact r_iret hC hQ hlk hr rfl (by decide) (by decide) dX0_speedOf_99 ⟨_, rfl, rfl, (by unfold Sp; first | (rw [Rs_q ⟨by omega, by omega, by omega⟩]; omega) | (rw [Rs_n (fun h9 => by have h8 := h9.1; have h7 := h9.2.1; have h6 := h9.2.2; omega)]; omega))⟩
    · refine r_iload hC dX0_speedOf_51 7 rfl ?_
      refine r_if_le hC (tgt := 75) dX0_speedOf_53 (by decide) (fun c75 => ?_) (fun c75 => ?_)
      · refine r_iconst hC (v := (0)) dX0_speedOf_75 (by decide) (by decide) (fun x76_ e76 t76 => ?_)
        refine r_aload_n hC dX0_speedOf_76 4 rfl ?_
        obtain ⟨a77_, hb77, hk77, hn77⟩ := hs.row ka1 2 55 5 (by decide) (by decide)
        refine r_getr hC 2 (ci := 1) rfl u1_in (by decide) mT_1_190 dX0_speedOf_77 ka1 rfl rfl hb77 ?_
        refine r_iload_n hC dX0_speedOf_80 6 rfl ?_
        refine x_iaload hC hk77 hn77 (by decide) rfl rfl dX0_speedOf_81 (by omega) (by omega) (fun x78_ e78 => ?_)
        have qpush : x78_.toInt = D 1 x3.toInt.toNat := by rw [e78, clx (i := x3) rfl (by omega)]; exact rwd 1 _ _ _ (cCt (r := 1) rfl hb77) (by rw [cnt_1]; omega) (fun h9 => absurd h9 (by decide))
        refine r_aload_n hC dX0_speedOf_82 3 rfl ?_
        refine r_getr hC 4 (ci := 0) rfl u0_in (by decide) mT_2_34 dX0_speedOf_83 ka0 rfl rfl hdr ?_
        refine r_iload hC dX0_speedOf_86 7 rfl ?_
        refine x_iaload hC kdr ldr (by decide) rfl rfl dX0_speedOf_88 (by omega) (by omega) (fun x79_ e79 => ?_)
        have ql79 := hA x4.toInt.toNat (by omega)
        have qv79 : x79_.toInt = A x4.toInt.toNat := by rw [e79, hF.get kdr rfl, clx (i := x4) rfl (by omega)]; exact ql79.1
        refine r_iadd hC dX0_speedOf_89 (fun x80_ e80 => ?_)
        try have t80 : x80_.toInt = x78_.toInt + x79_.toInt := by rw [e80]; exact ti_add (by omega) (by omega)
        refine r_iload hC dX0_speedOf_90 0 rfl ?_
        refine r_isub hC dX0_speedOf_92 (fun x81_ e81 => ?_)
        try have t81 : x81_.toInt = x80_.toInt - x62_.toInt := by rw [e81]; exact ti_sub (by omega) (by omega)
        refine r_mmax hC mT_3_176 mT_3_11 mT_1_12 mT_3_12 (by decide) (Nat.le_of_ble_eq_true rfl) (Nat.zero_le _) (Nat.zero_le _) dX0_speedOf_93 (fun x82_ e82 t82a t82b t82c => ?_)
        refine r_bipush hC (v := (10)) dX0_speedOf_96 (by decide) (by decide) (fun x83_ e83 t83 => ?_)
        refine r_idiv hC dX0_speedOf_98 (ne_0 (by omega)) (fun x84_ e84 => ?_)
        have td84 : x84_.toInt = x82_.toInt / 10 := by rw [e84, ti_div (by omega) (by omega), show x83_.toInt = 10 by omega]
        exact r_iret hC hQ hlk hr rfl (by decide) (by decide) dX0_speedOf_99 ⟨_, rfl, rfl, (by unfold Sp; first | (rw [Rs_q ⟨by omega, by omega, by omega⟩]; omega) | (rw [Rs_n (fun h9 => by have h8 := h9.1; have h7 := h9.2.1; have h6 := h9.2.2; omega)]; omega))⟩
      · refine r_aload_n hC dX0_speedOf_56 3 rfl ?_
        refine r_getr hC 0 (ci := 0) rfl u0_in (by decide) mT_2_25 dX0_speedOf_57 ka0 rfl rfl hsr ?_
        refine r_iload hC dX0_speedOf_60 2 rfl ?_
        refine r_iconst hC (v := (1)) dX0_speedOf_62 (by decide) (by decide) (fun x85_ e85 t85 => ?_)
        refine r_isub hC dX0_speedOf_63 (fun x86_ e86 => ?_)
        try have t86 : x86_.toInt = x1_.toInt - x85_.toInt := by rw [e86]; exact ti_sub (by omega) (by omega)
        refine x_iaload hC ksr lsr (by decide) rfl rfl dX0_speedOf_64 (by omega) (by omega) (fun x87_ e87 => ?_)
        have qs : x87_.toInt = v := by rw [e87, clx (i := x86_) rfl (by omega), show x86_.toInt.toNat = 60 * x3.toInt.toNat + x4.toInt.toNat - 1 by omega]; exact hv (by omega)
        refine r_aload_n hC dX0_speedOf_65 5 rfl ?_
        refine r_geti hC 3 (ci := 4) rfl u4_in (by decide) mT_1_169 dX0_speedOf_66 ka2 rfl rfl (fun x88_ e88 => ?_)
        have f88 : x88_.toInt = (I a2 3).toInt := by rw [e88]
        have k94 := k9 (Or.inr (Or.inr (by omega)))
        refine r_icmp_lt hC (tgt := 75) dX0_speedOf_69 (by decide) (fun c89 => ?_) (fun c89 => ?_)
        · refine r_iconst hC (v := (0)) dX0_speedOf_75 (by decide) (by decide) (fun x90_ e90 t90 => ?_)
          refine r_aload_n hC dX0_speedOf_76 4 rfl ?_
          obtain ⟨a91_, hb91, hk91, hn91⟩ := hs.row ka1 2 55 5 (by decide) (by decide)
          refine r_getr hC 2 (ci := 1) rfl u1_in (by decide) mT_1_190 dX0_speedOf_77 ka1 rfl rfl hb91 ?_
          refine r_iload_n hC dX0_speedOf_80 6 rfl ?_
          refine x_iaload hC hk91 hn91 (by decide) rfl rfl dX0_speedOf_81 (by omega) (by omega) (fun x92_ e92 => ?_)
          have qpush : x92_.toInt = D 1 x3.toInt.toNat := by rw [e92, clx (i := x3) rfl (by omega)]; exact rwd 1 _ _ _ (cCt (r := 1) rfl hb91) (by rw [cnt_1]; omega) (fun h9 => absurd h9 (by decide))
          refine r_aload_n hC dX0_speedOf_82 3 rfl ?_
          refine r_getr hC 4 (ci := 0) rfl u0_in (by decide) mT_2_34 dX0_speedOf_83 ka0 rfl rfl hdr ?_
          refine r_iload hC dX0_speedOf_86 7 rfl ?_
          refine x_iaload hC kdr ldr (by decide) rfl rfl dX0_speedOf_88 (by omega) (by omega) (fun x93_ e93 => ?_)
          have ql93 := hA x4.toInt.toNat (by omega)
          have qv93 : x93_.toInt = A x4.toInt.toNat := by rw [e93, hF.get kdr rfl, clx (i := x4) rfl (by omega)]; exact ql93.1
          refine r_iadd hC dX0_speedOf_89 (fun x94_ e94 => ?_)
          try have t94 : x94_.toInt = x92_.toInt + x93_.toInt := by rw [e94]; exact ti_add (by omega) (by omega)
          refine r_iload hC dX0_speedOf_90 0 rfl ?_
          refine r_isub hC dX0_speedOf_92 (fun x95_ e95 => ?_)
          try have t95 : x95_.toInt = x94_.toInt - x62_.toInt := by rw [e95]; exact ti_sub (by omega) (by omega)
          refine r_mmax hC mT_3_176 mT_3_11 mT_1_12 mT_3_12 (by decide) (Nat.le_of_ble_eq_true rfl) (Nat.zero_le _) (Nat.zero_le _) dX0_speedOf_93 (fun x96_ e96 t96a t96b t96c => ?_)
          refine r_bipush hC (v := (10)) dX0_speedOf_96 (by decide) (by decide) (fun x97_ e97 t97 => ?_)
          refine r_idiv hC dX0_speedOf_98 (ne_0 (by omega)) (fun x98_ e98 => ?_)
          have td98 : x98_.toInt = x96_.toInt / 10 := by rw [e98, ti_div (by omega) (by omega), show x97_.toInt = 10 by omega]
          exact r_iret hC hQ hlk hr rfl (by decide) (by decide) dX0_speedOf_99 ⟨_, rfl, rfl, (by unfold Sp; first | (rw [Rs_q ⟨by omega, by omega, by omega⟩]; omega) | (rw [Rs_n (fun h9 => by have h8 := h9.1; have h7 := h9.2.1; have h6 := h9.2.2; omega)]; omega))⟩
        · refine r_iconst hC (v := (0)) dX0_speedOf_72 (by decide) (by decide) (fun x99_ e99 t99 => ?_)
          refine r_istore hC (lv' := [(7, .int x99_), (6, .int x57_), (5, .int x1_), (0, .ref a0), (1, .ref a1), (2, .ref a2), (3, .int x3), (4, .int x4)]) dX0_speedOf_73 (by decide) rfl ?_
          refine r_iconst hC (v := (0)) dX0_speedOf_75 (by decide) (by decide) (fun x100_ e100 t100 => ?_)
          refine r_aload_n hC dX0_speedOf_76 4 rfl ?_
          obtain ⟨a101_, hb101, hk101, hn101⟩ := hs.row ka1 2 55 5 (by decide) (by decide)
          refine r_getr hC 2 (ci := 1) rfl u1_in (by decide) mT_1_190 dX0_speedOf_77 ka1 rfl rfl hb101 ?_
          refine r_iload_n hC dX0_speedOf_80 6 rfl ?_
          refine x_iaload hC hk101 hn101 (by decide) rfl rfl dX0_speedOf_81 (by omega) (by omega) (fun x102_ e102 => ?_)
          have qpush : x102_.toInt = D 1 x3.toInt.toNat := by rw [e102, clx (i := x3) rfl (by omega)]; exact rwd 1 _ _ _ (cCt (r := 1) rfl hb101) (by rw [cnt_1]; omega) (fun h9 => absurd h9 (by decide))
          refine r_aload_n hC dX0_speedOf_82 3 rfl ?_
          refine r_getr hC 4 (ci := 0) rfl u0_in (by decide) mT_2_34 dX0_speedOf_83 ka0 rfl rfl hdr ?_
          refine r_iload hC dX0_speedOf_86 7 rfl ?_
          refine x_iaload hC kdr ldr (by decide) rfl rfl dX0_speedOf_88 (by omega) (by omega) (fun x103_ e103 => ?_)
          have ql103 := hA x4.toInt.toNat (by omega)
          have qv103 : x103_.toInt = A x4.toInt.toNat := by rw [e103, hF.get kdr rfl, clx (i := x4) rfl (by omega)]; exact ql103.1
          refine r_iadd hC dX0_speedOf_89 (fun x104_ e104 => ?_)
          try have t104 : x104_.toInt = x102_.toInt + x103_.toInt := by rw [e104]; exact ti_add (by omega) (by omega)
          refine r_iload hC dX0_speedOf_90 0 rfl ?_
          refine r_isub hC dX0_speedOf_92 (fun x105_ e105 => ?_)
          try have t105 : x105_.toInt = x104_.toInt - x99_.toInt := by rw [e105]; exact ti_sub (by omega) (by omega)
          refine r_mmax hC mT_3_176 mT_3_11 mT_1_12 mT_3_12 (by decide) (Nat.le_of_ble_eq_true rfl) (Nat.zero_le _) (Nat.zero_le _) dX0_speedOf_93 (fun x106_ e106 t106a t106b t106c => ?_)
          refine r_bipush hC (v := (10)) dX0_speedOf_96 (by decide) (by decide) (fun x107_ e107 t107 => ?_)
          refine r_idiv hC dX0_speedOf_98 (ne_0 (by omega)) (fun x108_ e108 => ?_)
          have td108 : x108_.toInt = x106_.toInt / 10 := by rw [e108, ti_div (by omega) (by omega), show x107_.toInt = 10 by omega]
          exact r_iret hC hQ hlk hr rfl (by decide) (by decide) dX0_speedOf_99 ⟨_, rfl, rfl, (by unfold Sp; first | (rw [Rs_q ⟨by omega, by omega, by omega⟩]; omega) | (rw [Rs_n (fun h9 => by have h8 := h9.1; have h7 := h9.2.1; have h6 := h9.2.2; omega)]; omega))⟩
set_option maxHeartbeats 4000000 in
set_option maxRecDepth 100000 in
theorem f_X0_creepBy (g : GG) (l : Launch) (K len : Nat → Nat) (I : Nat → Nat → Int32) (J : Nat → Nat → Int64) (R : Nat → Nat → Option Nat) (hs : Sf K len I R) (a0 : Nat) (ka0 : K a0 = 1) (x1 : Int32) (a2 : Nat) (ka2 : K a2 = 5) (x3 : Int32) (x4 : Int32) (sr : Nat) (hsr : R a0 0 = some sr) (ksr : K sr = 50) (lsr : len sr = 300) (ir : Nat) (hir : R a0 1 = some ir) (kir : K ir = 51) (lir : len ir = 300) (wr : Nat) (hwr : R a0 2 = some wr) (kwr : K wr = 52) (lwr : len wr = 300) (D : DD) (s : Nat) (k7 : (I a2 1).toInt = D 7 s) (k9 : D 7 s = 2 ∨ D 7 s = 3 ∨ D 7 s = 4 → (I a2 3).toInt = D 9 s) (n : Int) (w : Int) (hb : (0 ≤ x1.toInt ∧ x1.toInt ≤ 30100) ∧ (0 ≤ n ∧ n ≤ 2000000) ∧ 0 ≤ w ∧ w ≤ 2000000) (h0 : x4.toInt = 0 → n = 0 ∧ w = 0) (hn : 0 < x4.toInt → (I ir ((60 * x3.toInt.toNat + x4.toInt.toNat) - 1)).toInt = n) (hw : 0 < x4.toInt → (I wr ((60 * x3.toInt.toNat + x4.toInt.toNat) - 1)).toInt = w) (p0 : 0 ≤ x3.toInt) (p1 : x3.toInt ≤ 4) (p2 : 0 ≤ x4.toInt) (p3 : x4.toInt ≤ 59) : Ct g l yX0_creepBy cX0_creepBy 7 (Option.none : Option Jvm.ClassFile.FieldType) rmX0_creepBy [.ref a0, .int x1, .ref a2, .int x3, .int x4] (K, len, I, J, R) (pV1 (K, len, I, J, R) (fun I' => Sf K len I' R ∧ Fr K [(50, 999), (51, 999), (52, 999)] I I' ∧ ((I' sr (60 * x3.toInt.toNat + x4.toInt.toNat)).toInt = x1.toInt) ∧ ((I' ir (60 * x3.toInt.toNat + x4.toInt.toNat)).toInt = n + x1.toInt) ∧ ((I' wr (60 * x3.toInt.toNat + x4.toInt.toNat)).toInt = w + (if D 7 s = 3 ∧ D 9 s ≤ n + x1.toInt then x1.toInt else 0)) ∧ (∀ b k, ¬ (k = (60 * x3.toInt.toNat + x4.toInt.toNat) ∧ (b = sr ∨ b = ir ∨ b = wr)) → I' b k = I b k))) := by
  refine Ct_intro (by decide +kernel) (Nat.le_of_ble_eq_true rfl) (fun X hC hL hKK hNm hr hlk hQ => ?_)
  subst hL
  have hC : Cx g X cX0_creepBy "HillTap$Course" 7 rmX0_creepBy := hC
  show P g X 7 0 [(0, .ref a0), (1, .int x1), (2, .ref a2), (3, .int x3), (4, .int x4)] [] 0 0 (K, len, I, J, R)
  have hF : Fr K [(50, 999), (51, 999), (52, 999)] I I := Fr.refl
  have b_x1 := ti_rng x1
  have b_x3 := ti_rng x3
  have b_x4 := ti_rng x4
  obtain ⟨K1, eK1⟩ : ∃ z : Int32, z = I a2 1 := ⟨_, rfl⟩
  have fK1 : K1.toInt = (I a2 1).toInt := by rw [eK1]
  obtain ⟨M3, eM3⟩ : ∃ z : Int32, z = I a2 3 := ⟨_, rfl⟩
  have fM3 : M3.toInt = (I a2 3).toInt := by rw [eM3]
  refine r_iload_n hC dX0_creepBy_0 3 rfl ?_
  refine r_iload hC dX0_creepBy_1 4 rfl ?_
  refine r_callSN hC (As := [.int x3, .int x4]) (rest := []) (c_X8_row g (xL X) K len I J R hs x3 x4 (by omega) (by omega) (by omega) (by omega)) mT_3_192 mT_1_1 nM_5 mT_3_191 okX8_row ⟨by decide, by decide⟩ rfl rfl (Nat.le_of_ble_eq_true rfl) ⟨by decide, by decide⟩ dX0_creepBy_3 (aI0 (F := fun st M => P g X 7 6 [(0, .ref a0), (1, .int x1), (2, .ref a2), (3, .int x3), (4, .int x4)] st _ _ M) (M := (K, len, I, J, R)) fun x1_ h1 => ?_)
  have k1_0 := h1
  clear h1
  show P g X 7 6 [(0, .ref a0), (1, .int x1), (2, .ref a2), (3, .int x3), (4, .int x4)] [.int x1_] _ _ (K, len, I, J, R)
  refine r_istore hC (lv' := [(5, .int x1_), (0, .ref a0), (1, .int x1), (2, .ref a2), (3, .int x3), (4, .int x4)]) dX0_creepBy_6 (by decide) rfl ?_
  refine r_aload_n hC dX0_creepBy_8 1 rfl ?_
  refine r_getr hC 0 (ci := 0) rfl u0_in (by decide) mT_2_25 dX0_creepBy_9 ka0 rfl rfl hsr ?_
  refine r_iload hC dX0_creepBy_12 0 rfl ?_
  refine r_iload_n hC dX0_creepBy_14 2 rfl ?_
  refine x_iastore hC ksr lsr (by decide) rfl rfl dX0_creepBy_15 (by omega) (by omega) (fun I2 eI2 => ?_)
  have hs2 := hs.put0 eI2 ksr (rng_arr (by decide) _) rfl (xF_arr (by decide) _) (by decide)
  have hF2 := hF.put eI2 ksr (inS_arr rfl _)
  have ai2 : x1_.toNatClampNeg = (60 * x3.toInt.toNat + x4.toInt.toNat) := by have h9 := clampI (i := x1_) (by omega); omega
  have eC2 := eI2
  rw [ai2] at eC2
  clear ai2
  have csr_2 : (I2 sr (60 * x3.toInt.toNat + x4.toInt.toNat)).toInt = x1.toInt := by rw [eC2, up2_self]
  have oth2 : ∀ b k, ¬ (k = (60 * x3.toInt.toNat + x4.toInt.toNat) ∧ (b = sr ∨ b = ir ∨ b = wr)) → I2 b k = I b k := fun b k z => (show I2 b k = I b k by rw [eC2, up2_ne _ _ (by by_cases h1 : b = sr; exact Or.inr (fun h2 => z ⟨h2, by simp [h1]⟩); exact Or.inl h1)]).trans ((fun _ _ _ => rfl) b k z)
  refine r_aload_n hC dX0_creepBy_16 1 rfl ?_
  refine r_getr hC 1 (ci := 0) rfl u0_in (by decide) mT_2_27 dX0_creepBy_17 ka0 rfl rfl hir ?_
  refine r_iload hC dX0_creepBy_20 0 rfl ?_
  refine r_iload hC dX0_creepBy_22 5 rfl ?_
  refine r_if_le hC (tgt := 39) dX0_creepBy_24 (by decide) (fun c3 => ?_) (fun c3 => ?_)
  · refine r_iconst hC (v := (0)) dX0_creepBy_39 (by decide) (by decide) (fun x4_ e4 t4 => ?_)
    refine r_iload_n hC dX0_creepBy_40 2 rfl ?_
    refine r_iadd hC dX0_creepBy_41 (fun x5_ e5 => ?_)
    try have t5 : x5_.toInt = x4_.toInt + x1.toInt := by rw [e5]; exact ti_add (by omega) (by omega)
    refine x_iastore hC kir lir (by decide) rfl rfl dX0_creepBy_42 (by omega) (by omega) (fun I6 eI6 => ?_)
    have hs6 := hs2.put0 eI6 kir (rng_arr (by decide) _) rfl (xF_arr (by decide) _) (by decide)
    have hF6 := hF2.put eI6 kir (inS_arr rfl _)
    have ai6 : x1_.toNatClampNeg = (60 * x3.toInt.toNat + x4.toInt.toNat) := by have h9 := clampI (i := x1_) (by omega); omega
    have eC6 := eI6
    rw [ai6] at eC6
    clear ai6
    have csr_6 : (I6 sr (60 * x3.toInt.toNat + x4.toInt.toNat)).toInt = x1.toInt := by rw [up2_kk eI6 kir ksr (by decide)]; exact csr_2
    have cir_6 : (I6 ir (60 * x3.toInt.toNat + x4.toInt.toNat)).toInt = x5_.toInt := by rw [eC6, up2_self]
    have oth6 : ∀ b k, ¬ (k = (60 * x3.toInt.toNat + x4.toInt.toNat) ∧ (b = sr ∨ b = ir ∨ b = wr)) → I6 b k = I b k := fun b k z => (show I6 b k = I2 b k by rw [eC6, up2_ne _ _ (by by_cases h1 : b = ir; exact Or.inr (fun h2 => z ⟨h2, by simp [h1]⟩); exact Or.inl h1)]).trans (oth2 b k z)
    refine r_aload_n hC dX0_creepBy_43 3 rfl ?_
    refine r_geti hC 1 (ci := 4) rfl u4_in (by decide) mT_1_163 dX0_creepBy_44 ka2 rfl rfl (fun x7_ e7 => ?_)
    have f7 : x7_.toInt = (I6 a2 1).toInt := by rw [e7]
    have w7 : x7_ = K1 := by rw [e7]; exact (Eq.trans (up2_kk eI6 kir ka2 (by decide)) (Eq.trans (up2_kk eI2 ksr ka2 (by decide)) eK1.symm))
    have wt7 : x7_.toInt = K1.toInt := by rw [w7]
    refine r_iconst hC (v := (3)) dX0_creepBy_47 (by decide) (by decide) (fun x8_ e8 t8 => ?_)
    refine r_icmp_ne hC (tgt := 69) dX0_creepBy_48 (by decide) (fun c9 => ?_) (fun c9 => ?_)
    · refine r_iconst hC (v := (0)) dX0_creepBy_69 (by decide) (by decide) (fun x10_ e10 t10 => ?_)
      refine r_istore hC (lv' := [(6, .int x10_), (5, .int x1_), (0, .ref a0), (1, .int x1), (2, .ref a2), (3, .int x3), (4, .int x4)]) dX0_creepBy_70 (by decide) rfl ?_
      refine r_aload_n hC dX0_creepBy_72 2 rfl ?_
      refine r_getr hC 2 (ci := 0) rfl u0_in (by decide) mT_2_30 dX0_creepBy_73 ka0 rfl rfl hwr ?_
      refine r_iload hC dX0_creepBy_76 1 rfl ?_
      refine r_iload hC dX0_creepBy_78 6 rfl ?_
      refine r_if_le hC (tgt := 95) dX0_creepBy_80 (by decide) (fun c11 => ?_) (fun c11 => ?_)
      · refine r_iconst hC (v := (0)) dX0_creepBy_95 (by decide) (by decide) (fun x12_ e12 t12 => ?_)
        refine r_iload hC dX0_creepBy_96 0 rfl ?_
        refine r_if_eq hC (tgt := 105) dX0_creepBy_98 (by decide) (fun c13 => ?_) (fun c13 => ?_)
        rotate_left
        · exfalso; omega
        refine r_iconst hC (v := (0)) dX0_creepBy_105 (by decide) (by decide) (fun x14_ e14 t14 => ?_)
        refine r_iadd hC dX0_creepBy_106 (fun x15_ e15 => ?_)
        try have t15 : x15_.toInt = x12_.toInt + x14_.toInt := by rw [e15]; exact ti_add (by omega) (by omega)
        refine x_iastore hC kwr lwr (by decide) rfl rfl dX0_creepBy_107 (by omega) (by omega) (fun I16 eI16 => ?_)
        have hs16 := hs6.put0 eI16 kwr (rng_arr (by decide) _) rfl (xF_arr (by decide) _) (by decide)
        have hF16 := hF6.put eI16 kwr (inS_arr rfl _)
        have ai16 : x1_.toNatClampNeg = (60 * x3.toInt.toNat + x4.toInt.toNat) := by have h9 := clampI (i := x1_) (by omega); omega
        have eC16 := eI16
        rw [ai16] at eC16
        clear ai16
        have csr_16 : (I16 sr (60 * x3.toInt.toNat + x4.toInt.toNat)).toInt = x1.toInt := by rw [up2_kk eI16 kwr ksr (by decide)]; exact csr_6
        have cir_16 : (I16 ir (60 * x3.toInt.toNat + x4.toInt.toNat)).toInt = x5_.toInt := by rw [up2_kk eI16 kwr kir (by decide)]; exact cir_6
        have cwr_16 : (I16 wr (60 * x3.toInt.toNat + x4.toInt.toNat)).toInt = x15_.toInt := by rw [eC16, up2_self]
        have oth16 : ∀ b k, ¬ (k = (60 * x3.toInt.toNat + x4.toInt.toNat) ∧ (b = sr ∨ b = ir ∨ b = wr)) → I16 b k = I b k := fun b k z => (show I16 b k = I6 b k by rw [eC16, up2_ne _ _ (by by_cases h1 : b = wr; exact Or.inr (fun h2 => z ⟨h2, by simp [h1]⟩); exact Or.inl h1)]).trans (oth6 b k z)
        exact r_vret hC hQ hlk hr (by decide) (by decide) dX0_creepBy_108 ⟨_, rfl, rfl, ⟨hs16, hF16, (by exact csr_16), (by have h9 := cir_16; omega), (by have h9 := cwr_16; first | (rw [if_pos ⟨by omega, by omega⟩]; omega) | (rw [if_neg (fun h8 => by have h7 := h8.1; have h6 := h8.2; omega)]; omega)), (by exact oth16)⟩⟩
      · refine r_aload_n hC dX0_creepBy_83 2 rfl ?_
        refine r_getr hC 2 (ci := 0) rfl u0_in (by decide) mT_2_30 dX0_creepBy_84 ka0 rfl rfl hwr ?_
        refine r_iload hC dX0_creepBy_87 1 rfl ?_
        refine r_iconst hC (v := (1)) dX0_creepBy_89 (by decide) (by decide) (fun x17_ e17 t17 => ?_)
        refine r_isub hC dX0_creepBy_90 (fun x18_ e18 => ?_)
        try have t18 : x18_.toInt = x1_.toInt - x17_.toInt := by rw [e18]; exact ti_sub (by omega) (by omega)
        refine x_iaload hC kwr lwr (by decide) rfl rfl dX0_creepBy_91 (by omega) (by omega) (fun x19_ e19 => ?_)
        have qw : x19_.toInt = w := by rw [e19, clx (i := x18_) rfl (by omega), show x18_.toInt.toNat = (60 * x3.toInt.toNat + x4.toInt.toNat) - 1 by omega, oth6 _ _ (fun z => by omega)]; exact hw (by omega)
        refine r_goto hC (tgt := 96) dX0_creepBy_92 (by decide) ?_
        refine r_iload hC dX0_creepBy_96 0 rfl ?_
        refine r_if_eq hC (tgt := 105) dX0_creepBy_98 (by decide) (fun c20 => ?_) (fun c20 => ?_)
        rotate_left
        · exfalso; omega
        refine r_iconst hC (v := (0)) dX0_creepBy_105 (by decide) (by decide) (fun x21_ e21 t21 => ?_)
        refine r_iadd hC dX0_creepBy_106 (fun x22_ e22 => ?_)
        try have t22 : x22_.toInt = x19_.toInt + x21_.toInt := by rw [e22]; exact ti_add (by omega) (by omega)
        refine x_iastore hC kwr lwr (by decide) rfl rfl dX0_creepBy_107 (by omega) (by omega) (fun I23 eI23 => ?_)
        have hs23 := hs6.put0 eI23 kwr (rng_arr (by decide) _) rfl (xF_arr (by decide) _) (by decide)
        have hF23 := hF6.put eI23 kwr (inS_arr rfl _)
        have ai23 : x1_.toNatClampNeg = (60 * x3.toInt.toNat + x4.toInt.toNat) := by have h9 := clampI (i := x1_) (by omega); omega
        have eC23 := eI23
        rw [ai23] at eC23
        clear ai23
        have csr_23 : (I23 sr (60 * x3.toInt.toNat + x4.toInt.toNat)).toInt = x1.toInt := by rw [up2_kk eI23 kwr ksr (by decide)]; exact csr_6
        have cir_23 : (I23 ir (60 * x3.toInt.toNat + x4.toInt.toNat)).toInt = x5_.toInt := by rw [up2_kk eI23 kwr kir (by decide)]; exact cir_6
        have cwr_23 : (I23 wr (60 * x3.toInt.toNat + x4.toInt.toNat)).toInt = x22_.toInt := by rw [eC23, up2_self]
        have oth23 : ∀ b k, ¬ (k = (60 * x3.toInt.toNat + x4.toInt.toNat) ∧ (b = sr ∨ b = ir ∨ b = wr)) → I23 b k = I b k := fun b k z => (show I23 b k = I6 b k by rw [eC23, up2_ne _ _ (by by_cases h1 : b = wr; exact Or.inr (fun h2 => z ⟨h2, by simp [h1]⟩); exact Or.inl h1)]).trans (oth6 b k z)
        exact r_vret hC hQ hlk hr (by decide) (by decide) dX0_creepBy_108 ⟨_, rfl, rfl, ⟨hs23, hF23, (by exact csr_23), (by have h9 := cir_23; omega), (by have h9 := cwr_23; first | (rw [if_pos ⟨by omega, by omega⟩]; omega) | (rw [if_neg (fun h8 => by have h7 := h8.1; have h6 := h8.2; omega)]; omega)), (by exact oth23)⟩⟩
    · refine r_aload_n hC dX0_creepBy_51 1 rfl ?_
      refine r_getr hC 1 (ci := 0) rfl u0_in (by decide) mT_2_27 dX0_creepBy_52 ka0 rfl rfl hir ?_
      refine r_iload hC dX0_creepBy_55 0 rfl ?_
      refine x_iaload hC kir lir (by decide) rfl rfl dX0_creepBy_57 (by omega) (by omega) (fun x24_ e24 => ?_)
      have qin : x24_.toInt = x5_.toInt := by rw [e24, clx (i := x1_) rfl (by omega), show x1_.toInt.toNat = (60 * x3.toInt.toNat + x4.toInt.toNat) by omega]; exact cir_6
      refine r_aload_n hC dX0_creepBy_58 3 rfl ?_
      refine r_geti hC 3 (ci := 4) rfl u4_in (by decide) mT_1_169 dX0_creepBy_59 ka2 rfl rfl (fun x25_ e25 => ?_)
      have f25 : x25_.toInt = (I6 a2 3).toInt := by rw [e25]
      have w25 : x25_ = M3 := by rw [e25]; exact (Eq.trans (up2_kk eI6 kir ka2 (by decide)) (Eq.trans (up2_kk eI2 ksr ka2 (by decide)) eM3.symm))
      have wt25 : x25_.toInt = M3.toInt := by rw [w25]
      have k93 := k9 (Or.inr (Or.inl (by omega)))
      refine r_icmp_lt hC (tgt := 69) dX0_creepBy_62 (by decide) (fun c26 => ?_) (fun c26 => ?_)
      · refine r_iconst hC (v := (0)) dX0_creepBy_69 (by decide) (by decide) (fun x27_ e27 t27 => ?_)
        refine r_istore hC (lv' := [(6, .int x27_), (5, .int x1_), (0, .ref a0), (1, .int x1), (2, .ref a2), (3, .int x3), (4, .int x4)]) dX0_creepBy_70 (by decide) rfl ?_
        refine r_aload_n hC dX0_creepBy_72 2 rfl ?_
        refine r_getr hC 2 (ci := 0) rfl u0_in (by decide) mT_2_30 dX0_creepBy_73 ka0 rfl rfl hwr ?_
        refine r_iload hC dX0_creepBy_76 1 rfl ?_
        refine r_iload hC dX0_creepBy_78 6 rfl ?_
        refine r_if_le hC (tgt := 95) dX0_creepBy_80 (by decide) (fun c28 => ?_) (fun c28 => ?_)
        · refine r_iconst hC (v := (0)) dX0_creepBy_95 (by decide) (by decide) (fun x29_ e29 t29 => ?_)
          refine r_iload hC dX0_creepBy_96 0 rfl ?_
          refine r_if_eq hC (tgt := 105) dX0_creepBy_98 (by decide) (fun c30 => ?_) (fun c30 => ?_)
          rotate_left
          · exfalso; omega
          refine r_iconst hC (v := (0)) dX0_creepBy_105 (by decide) (by decide) (fun x31_ e31 t31 => ?_)
          refine r_iadd hC dX0_creepBy_106 (fun x32_ e32 => ?_)
          try have t32 : x32_.toInt = x29_.toInt + x31_.toInt := by rw [e32]; exact ti_add (by omega) (by omega)
          refine x_iastore hC kwr lwr (by decide) rfl rfl dX0_creepBy_107 (by omega) (by omega) (fun I33 eI33 => ?_)
          have hs33 := hs6.put0 eI33 kwr (rng_arr (by decide) _) rfl (xF_arr (by decide) _) (by decide)
          have hF33 := hF6.put eI33 kwr (inS_arr rfl _)
          have ai33 : x1_.toNatClampNeg = (60 * x3.toInt.toNat + x4.toInt.toNat) := by have h9 := clampI (i := x1_) (by omega); omega
          have eC33 := eI33
          rw [ai33] at eC33
          clear ai33
          have csr_33 : (I33 sr (60 * x3.toInt.toNat + x4.toInt.toNat)).toInt = x1.toInt := by rw [up2_kk eI33 kwr ksr (by decide)]; exact csr_6
          have cir_33 : (I33 ir (60 * x3.toInt.toNat + x4.toInt.toNat)).toInt = x5_.toInt := by rw [up2_kk eI33 kwr kir (by decide)]; exact cir_6
          have cwr_33 : (I33 wr (60 * x3.toInt.toNat + x4.toInt.toNat)).toInt = x32_.toInt := by rw [eC33, up2_self]
          have oth33 : ∀ b k, ¬ (k = (60 * x3.toInt.toNat + x4.toInt.toNat) ∧ (b = sr ∨ b = ir ∨ b = wr)) → I33 b k = I b k := fun b k z => (show I33 b k = I6 b k by rw [eC33, up2_ne _ _ (by by_cases h1 : b = wr; exact Or.inr (fun h2 => z ⟨h2, by simp [h1]⟩); exact Or.inl h1)]).trans (oth6 b k z)
          exact r_vret hC hQ hlk hr (by decide) (by decide) dX0_creepBy_108 ⟨_, rfl, rfl, ⟨hs33, hF33, (by exact csr_33), (by have h9 := cir_33; omega), (by have h9 := cwr_33; first | (rw [if_pos ⟨by omega, by omega⟩]; omega) | (rw [if_neg (fun h8 => by have h7 := h8.1; have h6 := h8.2; omega)]; omega)), (by exact oth33)⟩⟩
        · refine r_aload_n hC dX0_creepBy_83 2 rfl ?_
          refine r_getr hC 2 (ci := 0) rfl u0_in (by decide) mT_2_30 dX0_creepBy_84 ka0 rfl rfl hwr ?_
          refine r_iload hC dX0_creepBy_87 1 rfl ?_
          refine r_iconst hC (v := (1)) dX0_creepBy_89 (by decide) (by decide) (fun x34_ e34 t34 => ?_)
          refine r_isub hC dX0_creepBy_90 (fun x35_ e35 => ?_)
          try have t35 : x35_.toInt = x1_.toInt - x34_.toInt := by rw [e35]; exact ti_sub (by omega) (by omega)
          refine x_iaload hC kwr lwr (by decide) rfl rfl dX0_creepBy_91 (by omega) (by omega) (fun x36_ e36 => ?_)
          have qw : x36_.toInt = w := by rw [e36, clx (i := x35_) rfl (by omega), show x35_.toInt.toNat = (60 * x3.toInt.toNat + x4.toInt.toNat) - 1 by omega, oth6 _ _ (fun z => by omega)]; exact hw (by omega)
          refine r_goto hC (tgt := 96) dX0_creepBy_92 (by decide) ?_
          refine r_iload hC dX0_creepBy_96 0 rfl ?_
          refine r_if_eq hC (tgt := 105) dX0_creepBy_98 (by decide) (fun c37 => ?_) (fun c37 => ?_)
          rotate_left
          · exfalso; omega
          refine r_iconst hC (v := (0)) dX0_creepBy_105 (by decide) (by decide) (fun x38_ e38 t38 => ?_)
          refine r_iadd hC dX0_creepBy_106 (fun x39_ e39 => ?_)
          try have t39 : x39_.toInt = x36_.toInt + x38_.toInt := by rw [e39]; exact ti_add (by omega) (by omega)
          refine x_iastore hC kwr lwr (by decide) rfl rfl dX0_creepBy_107 (by omega) (by omega) (fun I40 eI40 => ?_)
          have hs40 := hs6.put0 eI40 kwr (rng_arr (by decide) _) rfl (xF_arr (by decide) _) (by decide)
          have hF40 := hF6.put eI40 kwr (inS_arr rfl _)
          have ai40 : x1_.toNatClampNeg = (60 * x3.toInt.toNat + x4.toInt.toNat) := by have h9 := clampI (i := x1_) (by omega); omega
          have eC40 := eI40
          rw [ai40] at eC40
          clear ai40
          have csr_40 : (I40 sr (60 * x3.toInt.toNat + x4.toInt.toNat)).toInt = x1.toInt := by rw [up2_kk eI40 kwr ksr (by decide)]; exact csr_6
          have cir_40 : (I40 ir (60 * x3.toInt.toNat + x4.toInt.toNat)).toInt = x5_.toInt := by rw [up2_kk eI40 kwr kir (by decide)]; exact cir_6
          have cwr_40 : (I40 wr (60 * x3.toInt.toNat + x4.toInt.toNat)).toInt = x39_.toInt := by rw [eC40, up2_self]
          have oth40 : ∀ b k, ¬ (k = (60 * x3.toInt.toNat + x4.toInt.toNat) ∧ (b = sr ∨ b = ir ∨ b = wr)) → I40 b k = I b k := fun b k z => (show I40 b k = I6 b k by rw [eC40, up2_ne _ _ (by by_cases h1 : b = wr; exact Or.inr (fun h2 => z ⟨h2, by simp [h1]⟩); exact Or.inl h1)]).trans (oth6 b k z)
          exact r_vret hC hQ hlk hr (by decide) (by decide) dX0_creepBy_108 ⟨_, rfl, rfl, ⟨hs40, hF40, (by exact csr_40), (by have h9 := cir_40; omega), (by have h9 := cwr_40; first | (rw [if_pos ⟨by omega, by omega⟩]; omega) | (rw [if_neg (fun h8 => by have h7 := h8.1; have h6 := h8.2; omega)]; omega)), (by exact oth40)⟩⟩
      · refine r_iconst hC (v := (1)) dX0_creepBy_65 (by decide) (by decide) (fun x41_ e41 t41 => ?_)
        refine r_goto hC (tgt := 70) dX0_creepBy_66 (by decide) ?_
        refine r_istore hC (lv' := [(6, .int x41_), (5, .int x1_), (0, .ref a0), (1, .int x1), (2, .ref a2), (3, .int x3), (4, .int x4)]) dX0_creepBy_70 (by decide) rfl ?_
        refine r_aload_n hC dX0_creepBy_72 2 rfl ?_
        refine r_getr hC 2 (ci := 0) rfl u0_in (by decide) mT_2_30 dX0_creepBy_73 ka0 rfl rfl hwr ?_
        refine r_iload hC dX0_creepBy_76 1 rfl ?_
        refine r_iload hC dX0_creepBy_78 6 rfl ?_
        refine r_if_le hC (tgt := 95) dX0_creepBy_80 (by decide) (fun c42 => ?_) (fun c42 => ?_)
        · refine r_iconst hC (v := (0)) dX0_creepBy_95 (by decide) (by decide) (fun x43_ e43 t43 => ?_)
          refine r_iload hC dX0_creepBy_96 0 rfl ?_
          refine r_if_eq hC (tgt := 105) dX0_creepBy_98 (by decide) (fun c44 => ?_) (fun c44 => ?_)
          · exfalso; omega
          refine r_iload_n hC dX0_creepBy_101 3 rfl ?_
          refine r_goto hC (tgt := 106) dX0_creepBy_102 (by decide) ?_
          refine r_iadd hC dX0_creepBy_106 (fun x45_ e45 => ?_)
          try have t45 : x45_.toInt = x43_.toInt + x1.toInt := by rw [e45]; exact ti_add (by omega) (by omega)
          refine x_iastore hC kwr lwr (by decide) rfl rfl dX0_creepBy_107 (by omega) (by omega) (fun I46 eI46 => ?_)
          have hs46 := hs6.put0 eI46 kwr (rng_arr (by decide) _) rfl (xF_arr (by decide) _) (by decide)
          have hF46 := hF6.put eI46 kwr (inS_arr rfl _)
          have ai46 : x1_.toNatClampNeg = (60 * x3.toInt.toNat + x4.toInt.toNat) := by have h9 := clampI (i := x1_) (by omega); omega
          have eC46 := eI46
          rw [ai46] at eC46
          clear ai46
          have csr_46 : (I46 sr (60 * x3.toInt.toNat + x4.toInt.toNat)).toInt = x1.toInt := by rw [up2_kk eI46 kwr ksr (by decide)]; exact csr_6
          have cir_46 : (I46 ir (60 * x3.toInt.toNat + x4.toInt.toNat)).toInt = x5_.toInt := by rw [up2_kk eI46 kwr kir (by decide)]; exact cir_6
          have cwr_46 : (I46 wr (60 * x3.toInt.toNat + x4.toInt.toNat)).toInt = x45_.toInt := by rw [eC46, up2_self]
          have oth46 : ∀ b k, ¬ (k = (60 * x3.toInt.toNat + x4.toInt.toNat) ∧ (b = sr ∨ b = ir ∨ b = wr)) → I46 b k = I b k := fun b k z => (show I46 b k = I6 b k by rw [eC46, up2_ne _ _ (by by_cases h1 : b = wr; exact Or.inr (fun h2 => z ⟨h2, by simp [h1]⟩); exact Or.inl h1)]).trans (oth6 b k z)
          exact r_vret hC hQ hlk hr (by decide) (by decide) dX0_creepBy_108 ⟨_, rfl, rfl, ⟨hs46, hF46, (by exact csr_46), (by have h9 := cir_46; omega), (by have h9 := cwr_46; first | (rw [if_pos ⟨by omega, by omega⟩]; omega) | (rw [if_neg (fun h8 => by have h7 := h8.1; have h6 := h8.2; omega)]; omega)), (by exact oth46)⟩⟩
        · refine r_aload_n hC dX0_creepBy_83 2 rfl ?_
          refine r_getr hC 2 (ci := 0) rfl u0_in (by decide) mT_2_30 dX0_creepBy_84 ka0 rfl rfl hwr ?_
          refine r_iload hC dX0_creepBy_87 1 rfl ?_
          refine r_iconst hC (v := (1)) dX0_creepBy_89 (by decide) (by decide) (fun x47_ e47 t47 => ?_)
          refine r_isub hC dX0_creepBy_90 (fun x48_ e48 => ?_)
          try have t48 : x48_.toInt = x1_.toInt - x47_.toInt := by rw [e48]; exact ti_sub (by omega) (by omega)
          refine x_iaload hC kwr lwr (by decide) rfl rfl dX0_creepBy_91 (by omega) (by omega) (fun x49_ e49 => ?_)
          have qw : x49_.toInt = w := by rw [e49, clx (i := x48_) rfl (by omega), show x48_.toInt.toNat = (60 * x3.toInt.toNat + x4.toInt.toNat) - 1 by omega, oth6 _ _ (fun z => by omega)]; exact hw (by omega)
          refine r_goto hC (tgt := 96) dX0_creepBy_92 (by decide) ?_
          refine r_iload hC dX0_creepBy_96 0 rfl ?_
          refine r_if_eq hC (tgt := 105) dX0_creepBy_98 (by decide) (fun c50 => ?_) (fun c50 => ?_)
          · exfalso; omega
          refine r_iload_n hC dX0_creepBy_101 3 rfl ?_
          refine r_goto hC (tgt := 106) dX0_creepBy_102 (by decide) ?_
          refine r_iadd hC dX0_creepBy_106 (fun x51_ e51 => ?_)
          try have t51 : x51_.toInt = x49_.toInt + x1.toInt := by rw [e51]; exact ti_add (by omega) (by omega)
          refine x_iastore hC kwr lwr (by decide) rfl rfl dX0_creepBy_107 (by omega) (by omega) (fun I52 eI52 => ?_)
          have hs52 := hs6.put0 eI52 kwr (rng_arr (by decide) _) rfl (xF_arr (by decide) _) (by decide)
          have hF52 := hF6.put eI52 kwr (inS_arr rfl _)
          have ai52 : x1_.toNatClampNeg = (60 * x3.toInt.toNat + x4.toInt.toNat) := by have h9 := clampI (i := x1_) (by omega); omega
          have eC52 := eI52
          rw [ai52] at eC52
          clear ai52
          have csr_52 : (I52 sr (60 * x3.toInt.toNat + x4.toInt.toNat)).toInt = x1.toInt := by rw [up2_kk eI52 kwr ksr (by decide)]; exact csr_6
          have cir_52 : (I52 ir (60 * x3.toInt.toNat + x4.toInt.toNat)).toInt = x5_.toInt := by rw [up2_kk eI52 kwr kir (by decide)]; exact cir_6
          have cwr_52 : (I52 wr (60 * x3.toInt.toNat + x4.toInt.toNat)).toInt = x51_.toInt := by rw [eC52, up2_self]
          have oth52 : ∀ b k, ¬ (k = (60 * x3.toInt.toNat + x4.toInt.toNat) ∧ (b = sr ∨ b = ir ∨ b = wr)) → I52 b k = I b k := fun b k z => (show I52 b k = I6 b k by rw [eC52, up2_ne _ _ (by by_cases h1 : b = wr; exact Or.inr (fun h2 => z ⟨h2, by simp [h1]⟩); exact Or.inl h1)]).trans (oth6 b k z)
          exact r_vret hC hQ hlk hr (by decide) (by decide) dX0_creepBy_108 ⟨_, rfl, rfl, ⟨hs52, hF52, (by exact csr_52), (by have h9 := cir_52; omega), (by have h9 := cwr_52; first | (rw [if_pos ⟨by omega, by omega⟩]; omega) | (rw [if_neg (fun h8 => by have h7 := h8.1; have h6 := h8.2; omega)]; omega)), (by exact oth52)⟩⟩
  · refine r_aload_n hC dX0_creepBy_27 1 rfl ?_
    refine r_getr hC 1 (ci := 0) rfl u0_in (by decide) mT_2_27 dX0_creepBy_28 ka0 rfl rfl hir ?_
    refine r_iload hC dX0_creepBy_31 0 rfl ?_
    refine r_iconst hC (v := (1)) dX0_creepBy_33 (by decide) (by decide) (fun x53_ e53 t53 => ?_)
    refine r_isub hC dX0_creepBy_34 (fun x54_ e54 => ?_)
    try have t54 : x54_.toInt = x1_.toInt - x53_.toInt := by rw [e54]; exact ti_sub (by omega) (by omega)
    refine x_iaload hC kir lir (by decide) rfl rfl dX0_creepBy_35 (by omega) (by omega) (fun x55_ e55 => ?_)
    have qn : x55_.toInt = n := by rw [e55, clx (i := x54_) rfl (by omega), show x54_.toInt.toNat = (60 * x3.toInt.toNat + x4.toInt.toNat) - 1 by omega, oth2 _ _ (fun z => by omega)]; exact hn (by omega)
    refine r_goto hC (tgt := 40) dX0_creepBy_36 (by decide) ?_
    refine r_iload_n hC dX0_creepBy_40 2 rfl ?_
    refine r_iadd hC dX0_creepBy_41 (fun x56_ e56 => ?_)
    try have t56 : x56_.toInt = x55_.toInt + x1.toInt := by rw [e56]; exact ti_add (by omega) (by omega)
    refine x_iastore hC kir lir (by decide) rfl rfl dX0_creepBy_42 (by omega) (by omega) (fun I57 eI57 => ?_)
    have hs57 := hs2.put0 eI57 kir (rng_arr (by decide) _) rfl (xF_arr (by decide) _) (by decide)
    have hF57 := hF2.put eI57 kir (inS_arr rfl _)
    have ai57 : x1_.toNatClampNeg = (60 * x3.toInt.toNat + x4.toInt.toNat) := by have h9 := clampI (i := x1_) (by omega); omega
    have eC57 := eI57
    rw [ai57] at eC57
    clear ai57
    have csr_57 : (I57 sr (60 * x3.toInt.toNat + x4.toInt.toNat)).toInt = x1.toInt := by rw [up2_kk eI57 kir ksr (by decide)]; exact csr_2
    have cir_57 : (I57 ir (60 * x3.toInt.toNat + x4.toInt.toNat)).toInt = x56_.toInt := by rw [eC57, up2_self]
    have oth57 : ∀ b k, ¬ (k = (60 * x3.toInt.toNat + x4.toInt.toNat) ∧ (b = sr ∨ b = ir ∨ b = wr)) → I57 b k = I b k := fun b k z => (show I57 b k = I2 b k by rw [eC57, up2_ne _ _ (by by_cases h1 : b = ir; exact Or.inr (fun h2 => z ⟨h2, by simp [h1]⟩); exact Or.inl h1)]).trans (oth2 b k z)
    refine r_aload_n hC dX0_creepBy_43 3 rfl ?_
    refine r_geti hC 1 (ci := 4) rfl u4_in (by decide) mT_1_163 dX0_creepBy_44 ka2 rfl rfl (fun x58_ e58 => ?_)
    have f58 : x58_.toInt = (I57 a2 1).toInt := by rw [e58]
    have w58 : x58_ = K1 := by rw [e58]; exact (Eq.trans (up2_kk eI57 kir ka2 (by decide)) (Eq.trans (up2_kk eI2 ksr ka2 (by decide)) eK1.symm))
    have wt58 : x58_.toInt = K1.toInt := by rw [w58]
    refine r_iconst hC (v := (3)) dX0_creepBy_47 (by decide) (by decide) (fun x59_ e59 t59 => ?_)
    refine r_icmp_ne hC (tgt := 69) dX0_creepBy_48 (by decide) (fun c60 => ?_) (fun c60 => ?_)
    · refine r_iconst hC (v := (0)) dX0_creepBy_69 (by decide) (by decide) (fun x61_ e61 t61 => ?_)
      refine r_istore hC (lv' := [(6, .int x61_), (5, .int x1_), (0, .ref a0), (1, .int x1), (2, .ref a2), (3, .int x3), (4, .int x4)]) dX0_creepBy_70 (by decide) rfl ?_
      refine r_aload_n hC dX0_creepBy_72 2 rfl ?_
      refine r_getr hC 2 (ci := 0) rfl u0_in (by decide) mT_2_30 dX0_creepBy_73 ka0 rfl rfl hwr ?_
      refine r_iload hC dX0_creepBy_76 1 rfl ?_
      refine r_iload hC dX0_creepBy_78 6 rfl ?_
      refine r_if_le hC (tgt := 95) dX0_creepBy_80 (by decide) (fun c62 => ?_) (fun c62 => ?_)
      · refine r_iconst hC (v := (0)) dX0_creepBy_95 (by decide) (by decide) (fun x63_ e63 t63 => ?_)
        refine r_iload hC dX0_creepBy_96 0 rfl ?_
        refine r_if_eq hC (tgt := 105) dX0_creepBy_98 (by decide) (fun c64 => ?_) (fun c64 => ?_)
        rotate_left
        · exfalso; omega
        refine r_iconst hC (v := (0)) dX0_creepBy_105 (by decide) (by decide) (fun x65_ e65 t65 => ?_)
        refine r_iadd hC dX0_creepBy_106 (fun x66_ e66 => ?_)
        try have t66 : x66_.toInt = x63_.toInt + x65_.toInt := by rw [e66]; exact ti_add (by omega) (by omega)
        refine x_iastore hC kwr lwr (by decide) rfl rfl dX0_creepBy_107 (by omega) (by omega) (fun I67 eI67 => ?_)
        have hs67 := hs57.put0 eI67 kwr (rng_arr (by decide) _) rfl (xF_arr (by decide) _) (by decide)
        have hF67 := hF57.put eI67 kwr (inS_arr rfl _)
        have ai67 : x1_.toNatClampNeg = (60 * x3.toInt.toNat + x4.toInt.toNat) := by have h9 := clampI (i := x1_) (by omega); omega
        have eC67 := eI67
        rw [ai67] at eC67
        clear ai67
        have csr_67 : (I67 sr (60 * x3.toInt.toNat + x4.toInt.toNat)).toInt = x1.toInt := by rw [up2_kk eI67 kwr ksr (by decide)]; exact csr_57
        have cir_67 : (I67 ir (60 * x3.toInt.toNat + x4.toInt.toNat)).toInt = x56_.toInt := by rw [up2_kk eI67 kwr kir (by decide)]; exact cir_57
        have cwr_67 : (I67 wr (60 * x3.toInt.toNat + x4.toInt.toNat)).toInt = x66_.toInt := by rw [eC67, up2_self]
        have oth67 : ∀ b k, ¬ (k = (60 * x3.toInt.toNat + x4.toInt.toNat) ∧ (b = sr ∨ b = ir ∨ b = wr)) → I67 b k = I b k := fun b k z => (show I67 b k = I57 b k by rw [eC67, up2_ne _ _ (by by_cases h1 : b = wr; exact Or.inr (fun h2 => z ⟨h2, by simp [h1]⟩); exact Or.inl h1)]).trans (oth57 b k z)
        exact r_vret hC hQ hlk hr (by decide) (by decide) dX0_creepBy_108 ⟨_, rfl, rfl, ⟨hs67, hF67, (by exact csr_67), (by have h9 := cir_67; omega), (by have h9 := cwr_67; first | (rw [if_pos ⟨by omega, by omega⟩]; omega) | (rw [if_neg (fun h8 => by have h7 := h8.1; have h6 := h8.2; omega)]; omega)), (by exact oth67)⟩⟩
      · refine r_aload_n hC dX0_creepBy_83 2 rfl ?_
        refine r_getr hC 2 (ci := 0) rfl u0_in (by decide) mT_2_30 dX0_creepBy_84 ka0 rfl rfl hwr ?_
        refine r_iload hC dX0_creepBy_87 1 rfl ?_
        refine r_iconst hC (v := (1)) dX0_creepBy_89 (by decide) (by decide) (fun x68_ e68 t68 => ?_)
        refine r_isub hC dX0_creepBy_90 (fun x69_ e69 => ?_)
        try have t69 : x69_.toInt = x1_.toInt - x68_.toInt := by rw [e69]; exact ti_sub (by omega) (by omega)
        refine x_iaload hC kwr lwr (by decide) rfl rfl dX0_creepBy_91 (by omega) (by omega) (fun x70_ e70 => ?_)
        have qw : x70_.toInt = w := by rw [e70, clx (i := x69_) rfl (by omega), show x69_.toInt.toNat = (60 * x3.toInt.toNat + x4.toInt.toNat) - 1 by omega, oth57 _ _ (fun z => by omega)]; exact hw (by omega)
        refine r_goto hC (tgt := 96) dX0_creepBy_92 (by decide) ?_
        refine r_iload hC dX0_creepBy_96 0 rfl ?_
        refine r_if_eq hC (tgt := 105) dX0_creepBy_98 (by decide) (fun c71 => ?_) (fun c71 => ?_)
        rotate_left
        · exfalso; omega
        refine r_iconst hC (v := (0)) dX0_creepBy_105 (by decide) (by decide) (fun x72_ e72 t72 => ?_)
        refine r_iadd hC dX0_creepBy_106 (fun x73_ e73 => ?_)
        try have t73 : x73_.toInt = x70_.toInt + x72_.toInt := by rw [e73]; exact ti_add (by omega) (by omega)
        refine x_iastore hC kwr lwr (by decide) rfl rfl dX0_creepBy_107 (by omega) (by omega) (fun I74 eI74 => ?_)
        have hs74 := hs57.put0 eI74 kwr (rng_arr (by decide) _) rfl (xF_arr (by decide) _) (by decide)
        have hF74 := hF57.put eI74 kwr (inS_arr rfl _)
        have ai74 : x1_.toNatClampNeg = (60 * x3.toInt.toNat + x4.toInt.toNat) := by have h9 := clampI (i := x1_) (by omega); omega
        have eC74 := eI74
        rw [ai74] at eC74
        clear ai74
        have csr_74 : (I74 sr (60 * x3.toInt.toNat + x4.toInt.toNat)).toInt = x1.toInt := by rw [up2_kk eI74 kwr ksr (by decide)]; exact csr_57
        have cir_74 : (I74 ir (60 * x3.toInt.toNat + x4.toInt.toNat)).toInt = x56_.toInt := by rw [up2_kk eI74 kwr kir (by decide)]; exact cir_57
        have cwr_74 : (I74 wr (60 * x3.toInt.toNat + x4.toInt.toNat)).toInt = x73_.toInt := by rw [eC74, up2_self]
        have oth74 : ∀ b k, ¬ (k = (60 * x3.toInt.toNat + x4.toInt.toNat) ∧ (b = sr ∨ b = ir ∨ b = wr)) → I74 b k = I b k := fun b k z => (show I74 b k = I57 b k by rw [eC74, up2_ne _ _ (by by_cases h1 : b = wr; exact Or.inr (fun h2 => z ⟨h2, by simp [h1]⟩); exact Or.inl h1)]).trans (oth57 b k z)
        exact r_vret hC hQ hlk hr (by decide) (by decide) dX0_creepBy_108 ⟨_, rfl, rfl, ⟨hs74, hF74, (by exact csr_74), (by have h9 := cir_74; omega), (by have h9 := cwr_74; first | (rw [if_pos ⟨by omega, by omega⟩]; omega) | (rw [if_neg (fun h8 => by have h7 := h8.1; have h6 := h8.2; omega)]; omega)), (by exact oth74)⟩⟩
    · refine r_aload_n hC dX0_creepBy_51 1 rfl ?_
      refine r_getr hC 1 (ci := 0) rfl u0_in (by decide) mT_2_27 dX0_creepBy_52 ka0 rfl rfl hir ?_
      refine r_iload hC dX0_creepBy_55 0 rfl ?_
      refine x_iaload hC kir lir (by decide) rfl rfl dX0_creepBy_57 (by omega) (by omega) (fun x75_ e75 => ?_)
      have qin : x75_.toInt = x56_.toInt := by rw [e75, clx (i := x1_) rfl (by omega), show x1_.toInt.toNat = (60 * x3.toInt.toNat + x4.toInt.toNat) by omega]; exact cir_57
      refine r_aload_n hC dX0_creepBy_58 3 rfl ?_
      refine r_geti hC 3 (ci := 4) rfl u4_in (by decide) mT_1_169 dX0_creepBy_59 ka2 rfl rfl (fun x76_ e76 => ?_)
      have f76 : x76_.toInt = (I57 a2 3).toInt := by rw [e76]
      have w76 : x76_ = M3 := by rw [e76]; exact (Eq.trans (up2_kk eI57 kir ka2 (by decide)) (Eq.trans (up2_kk eI2 ksr ka2 (by decide)) eM3.symm))
      have wt76 : x76_.toInt = M3.toInt := by rw [w76]
      have k93 := k9 (Or.inr (Or.inl (by omega)))
      refine r_icmp_lt hC (tgt := 69) dX0_creepBy_62 (by decide) (fun c77 => ?_) (fun c77 => ?_)
      · refine r_iconst hC (v := (0)) dX0_creepBy_69 (by decide) (by decide) (fun x78_ e78 t78 => ?_)
        refine r_istore hC (lv' := [(6, .int x78_), (5, .int x1_), (0, .ref a0), (1, .int x1), (2, .ref a2), (3, .int x3), (4, .int x4)]) dX0_creepBy_70 (by decide) rfl ?_
        refine r_aload_n hC dX0_creepBy_72 2 rfl ?_
        refine r_getr hC 2 (ci := 0) rfl u0_in (by decide) mT_2_30 dX0_creepBy_73 ka0 rfl rfl hwr ?_
        refine r_iload hC dX0_creepBy_76 1 rfl ?_
        refine r_iload hC dX0_creepBy_78 6 rfl ?_
        refine r_if_le hC (tgt := 95) dX0_creepBy_80 (by decide) (fun c79 => ?_) (fun c79 => ?_)
        · refine r_iconst hC (v := (0)) dX0_creepBy_95 (by decide) (by decide) (fun x80_ e80 t80 => ?_)
          refine r_iload hC dX0_creepBy_96 0 rfl ?_
          refine r_if_eq hC (tgt := 105) dX0_creepBy_98 (by decide) (fun c81 => ?_) (fun c81 => ?_)
          rotate_left
          · exfalso; omega
          refine r_iconst hC (v := (0)) dX0_creepBy_105 (by decide) (by decide) (fun x82_ e82 t82 => ?_)
          refine r_iadd hC dX0_creepBy_106 (fun x83_ e83 => ?_)
          try have t83 : x83_.toInt = x80_.toInt + x82_.toInt := by rw [e83]; exact ti_add (by omega) (by omega)
          refine x_iastore hC kwr lwr (by decide) rfl rfl dX0_creepBy_107 (by omega) (by omega) (fun I84 eI84 => ?_)
          have hs84 := hs57.put0 eI84 kwr (rng_arr (by decide) _) rfl (xF_arr (by decide) _) (by decide)
          have hF84 := hF57.put eI84 kwr (inS_arr rfl _)
          have ai84 : x1_.toNatClampNeg = (60 * x3.toInt.toNat + x4.toInt.toNat) := by have h9 := clampI (i := x1_) (by omega); omega
          have eC84 := eI84
          rw [ai84] at eC84
          clear ai84
          have csr_84 : (I84 sr (60 * x3.toInt.toNat + x4.toInt.toNat)).toInt = x1.toInt := by rw [up2_kk eI84 kwr ksr (by decide)]; exact csr_57
          have cir_84 : (I84 ir (60 * x3.toInt.toNat + x4.toInt.toNat)).toInt = x56_.toInt := by rw [up2_kk eI84 kwr kir (by decide)]; exact cir_57
          have cwr_84 : (I84 wr (60 * x3.toInt.toNat + x4.toInt.toNat)).toInt = x83_.toInt := by rw [eC84, up2_self]
          have oth84 : ∀ b k, ¬ (k = (60 * x3.toInt.toNat + x4.toInt.toNat) ∧ (b = sr ∨ b = ir ∨ b = wr)) → I84 b k = I b k := fun b k z => (show I84 b k = I57 b k by rw [eC84, up2_ne _ _ (by by_cases h1 : b = wr; exact Or.inr (fun h2 => z ⟨h2, by simp [h1]⟩); exact Or.inl h1)]).trans (oth57 b k z)
          exact r_vret hC hQ hlk hr (by decide) (by decide) dX0_creepBy_108 ⟨_, rfl, rfl, ⟨hs84, hF84, (by exact csr_84), (by have h9 := cir_84; omega), (by have h9 := cwr_84; first | (rw [if_pos ⟨by omega, by omega⟩]; omega) | (rw [if_neg (fun h8 => by have h7 := h8.1; have h6 := h8.2; omega)]; omega)), (by exact oth84)⟩⟩
        · refine r_aload_n hC dX0_creepBy_83 2 rfl ?_
          refine r_getr hC 2 (ci := 0) rfl u0_in (by decide) mT_2_30 dX0_creepBy_84 ka0 rfl rfl hwr ?_
          refine r_iload hC dX0_creepBy_87 1 rfl ?_
          refine r_iconst hC (v := (1)) dX0_creepBy_89 (by decide) (by decide) (fun x85_ e85 t85 => ?_)
          refine r_isub hC dX0_creepBy_90 (fun x86_ e86 => ?_)
          try have t86 : x86_.toInt = x1_.toInt - x85_.toInt := by rw [e86]; exact ti_sub (by omega) (by omega)
          refine x_iaload hC kwr lwr (by decide) rfl rfl dX0_creepBy_91 (by omega) (by omega) (fun x87_ e87 => ?_)
          have qw : x87_.toInt = w := by rw [e87, clx (i := x86_) rfl (by omega), show x86_.toInt.toNat = (60 * x3.toInt.toNat + x4.toInt.toNat) - 1 by omega, oth57 _ _ (fun z => by omega)]; exact hw (by omega)
          refine r_goto hC (tgt := 96) dX0_creepBy_92 (by decide) ?_
          refine r_iload hC dX0_creepBy_96 0 rfl ?_
          refine r_if_eq hC (tgt := 105) dX0_creepBy_98 (by decide) (fun c88 => ?_) (fun c88 => ?_)
          rotate_left
          · exfalso; omega
          refine r_iconst hC (v := (0)) dX0_creepBy_105 (by decide) (by decide) (fun x89_ e89 t89 => ?_)
          refine r_iadd hC dX0_creepBy_106 (fun x90_ e90 => ?_)
          try have t90 : x90_.toInt = x87_.toInt + x89_.toInt := by rw [e90]; exact ti_add (by omega) (by omega)
          refine x_iastore hC kwr lwr (by decide) rfl rfl dX0_creepBy_107 (by omega) (by omega) (fun I91 eI91 => ?_)
          have hs91 := hs57.put0 eI91 kwr (rng_arr (by decide) _) rfl (xF_arr (by decide) _) (by decide)
          have hF91 := hF57.put eI91 kwr (inS_arr rfl _)
          have ai91 : x1_.toNatClampNeg = (60 * x3.toInt.toNat + x4.toInt.toNat) := by have h9 := clampI (i := x1_) (by omega); omega
          have eC91 := eI91
          rw [ai91] at eC91
          clear ai91
          have csr_91 : (I91 sr (60 * x3.toInt.toNat + x4.toInt.toNat)).toInt = x1.toInt := by rw [up2_kk eI91 kwr ksr (by decide)]; exact csr_57
          have cir_91 : (I91 ir (60 * x3.toInt.toNat + x4.toInt.toNat)).toInt = x56_.toInt := by rw [up2_kk eI91 kwr kir (by decide)]; exact cir_57
          have cwr_91 : (I91 wr (60 * x3.toInt.toNat + x4.toInt.toNat)).toInt = x90_.toInt := by rw [eC91, up2_self]
          have oth91 : ∀ b k, ¬ (k = (60 * x3.toInt.toNat + x4.toInt.toNat) ∧ (b = sr ∨ b = ir ∨ b = wr)) → I91 b k = I b k := fun b k z => (show I91 b k = I57 b k by rw [eC91, up2_ne _ _ (by by_cases h1 : b = wr; exact Or.inr (fun h2 => z ⟨h2, by simp [h1]⟩); exact Or.inl h1)]).trans (oth57 b k z)
          exact r_vret hC hQ hlk hr (by decide) (by decide) dX0_creepBy_108 ⟨_, rfl, rfl, ⟨hs91, hF91, (by exact csr_91), (by have h9 := cir_91; omega), (by have h9 := cwr_91; first | (rw [if_pos ⟨by omega, by omega⟩]; omega) | (rw [if_neg (fun h8 => by have h7 := h8.1; have h6 := h8.2; omega)]; omega)), (by exact oth91)⟩⟩
      · refine r_iconst hC (v := (1)) dX0_creepBy_65 (by decide) (by decide) (fun x92_ e92 t92 => ?_)
        refine r_goto hC (tgt := 70) dX0_creepBy_66 (by decide) ?_
        refine r_istore hC (lv' := [(6, .int x92_), (5, .int x1_), (0, .ref a0), (1, .int x1), (2, .ref a2), (3, .int x3), (4, .int x4)]) dX0_creepBy_70 (by decide) rfl ?_
        refine r_aload_n hC dX0_creepBy_72 2 rfl ?_
        refine r_getr hC 2 (ci := 0) rfl u0_in (by decide) mT_2_30 dX0_creepBy_73 ka0 rfl rfl hwr ?_
        refine r_iload hC dX0_creepBy_76 1 rfl ?_
        refine r_iload hC dX0_creepBy_78 6 rfl ?_
        refine r_if_le hC (tgt := 95) dX0_creepBy_80 (by decide) (fun c93 => ?_) (fun c93 => ?_)
        · refine r_iconst hC (v := (0)) dX0_creepBy_95 (by decide) (by decide) (fun x94_ e94 t94 => ?_)
          refine r_iload hC dX0_creepBy_96 0 rfl ?_
          refine r_if_eq hC (tgt := 105) dX0_creepBy_98 (by decide) (fun c95 => ?_) (fun c95 => ?_)
          · exfalso; omega
          refine r_iload_n hC dX0_creepBy_101 3 rfl ?_
          refine r_goto hC (tgt := 106) dX0_creepBy_102 (by decide) ?_
          refine r_iadd hC dX0_creepBy_106 (fun x96_ e96 => ?_)
          try have t96 : x96_.toInt = x94_.toInt + x1.toInt := by rw [e96]; exact ti_add (by omega) (by omega)
          refine x_iastore hC kwr lwr (by decide) rfl rfl dX0_creepBy_107 (by omega) (by omega) (fun I97 eI97 => ?_)
          have hs97 := hs57.put0 eI97 kwr (rng_arr (by decide) _) rfl (xF_arr (by decide) _) (by decide)
          have hF97 := hF57.put eI97 kwr (inS_arr rfl _)
          have ai97 : x1_.toNatClampNeg = (60 * x3.toInt.toNat + x4.toInt.toNat) := by have h9 := clampI (i := x1_) (by omega); omega
          have eC97 := eI97
          rw [ai97] at eC97
          clear ai97
          have csr_97 : (I97 sr (60 * x3.toInt.toNat + x4.toInt.toNat)).toInt = x1.toInt := by rw [up2_kk eI97 kwr ksr (by decide)]; exact csr_57
          have cir_97 : (I97 ir (60 * x3.toInt.toNat + x4.toInt.toNat)).toInt = x56_.toInt := by rw [up2_kk eI97 kwr kir (by decide)]; exact cir_57
          have cwr_97 : (I97 wr (60 * x3.toInt.toNat + x4.toInt.toNat)).toInt = x96_.toInt := by rw [eC97, up2_self]
          have oth97 : ∀ b k, ¬ (k = (60 * x3.toInt.toNat + x4.toInt.toNat) ∧ (b = sr ∨ b = ir ∨ b = wr)) → I97 b k = I b k := fun b k z => (show I97 b k = I57 b k by rw [eC97, up2_ne _ _ (by by_cases h1 : b = wr; exact Or.inr (fun h2 => z ⟨h2, by simp [h1]⟩); exact Or.inl h1)]).trans (oth57 b k z)
          exact r_vret hC hQ hlk hr (by decide) (by decide) dX0_creepBy_108 ⟨_, rfl, rfl, ⟨hs97, hF97, (by exact csr_97), (by have h9 := cir_97; omega), (by have h9 := cwr_97; first | (rw [if_pos ⟨by omega, by omega⟩]; omega) | (rw [if_neg (fun h8 => by have h7 := h8.1; have h6 := h8.2; omega)]; omega)), (by exact oth97)⟩⟩
        · refine r_aload_n hC dX0_creepBy_83 2 rfl ?_
          refine r_getr hC 2 (ci := 0) rfl u0_in (by decide) mT_2_30 dX0_creepBy_84 ka0 rfl rfl hwr ?_
          refine r_iload hC dX0_creepBy_87 1 rfl ?_
          refine r_iconst hC (v := (1)) dX0_creepBy_89 (by decide) (by decide) (fun x98_ e98 t98 => ?_)
          refine r_isub hC dX0_creepBy_90 (fun x99_ e99 => ?_)
          try have t99 : x99_.toInt = x1_.toInt - x98_.toInt := by rw [e99]; exact ti_sub (by omega) (by omega)
          refine x_iaload hC kwr lwr (by decide) rfl rfl dX0_creepBy_91 (by omega) (by omega) (fun x100_ e100 => ?_)
          have qw : x100_.toInt = w := by rw [e100, clx (i := x99_) rfl (by omega), show x99_.toInt.toNat = (60 * x3.toInt.toNat + x4.toInt.toNat) - 1 by omega, oth57 _ _ (fun z => by omega)]; exact hw (by omega)
          refine r_goto hC (tgt := 96) dX0_creepBy_92 (by decide) ?_
          refine r_iload hC dX0_creepBy_96 0 rfl ?_
          refine r_if_eq hC (tgt := 105) dX0_creepBy_98 (by decide) (fun c101 => ?_) (fun c101 => ?_)
          · exfalso; omega
          refine r_iload_n hC dX0_creepBy_101 3 rfl ?_
          refine r_goto hC (tgt := 106) dX0_creepBy_102 (by decide) ?_
          refine r_iadd hC dX0_creepBy_106 (fun x102_ e102 => ?_)
          try have t102 : x102_.toInt = x100_.toInt + x1.toInt := by rw [e102]; exact ti_add (by omega) (by omega)
          refine x_iastore hC kwr lwr (by decide) rfl rfl dX0_creepBy_107 (by omega) (by omega) (fun I103 eI103 => ?_)
          have hs103 := hs57.put0 eI103 kwr (rng_arr (by decide) _) rfl (xF_arr (by decide) _) (by decide)
          have hF103 := hF57.put eI103 kwr (inS_arr rfl _)
          have ai103 : x1_.toNatClampNeg = (60 * x3.toInt.toNat + x4.toInt.toNat) := by have h9 := clampI (i := x1_) (by omega); omega
          have eC103 := eI103
          rw [ai103] at eC103
          clear ai103
          have csr_103 : (I103 sr (60 * x3.toInt.toNat + x4.toInt.toNat)).toInt = x1.toInt := by rw [up2_kk eI103 kwr ksr (by decide)]; exact csr_57
          have cir_103 : (I103 ir (60 * x3.toInt.toNat + x4.toInt.toNat)).toInt = x56_.toInt := by rw [up2_kk eI103 kwr kir (by decide)]; exact cir_57
          have cwr_103 : (I103 wr (60 * x3.toInt.toNat + x4.toInt.toNat)).toInt = x102_.toInt := by rw [eC103, up2_self]
          have oth103 : ∀ b k, ¬ (k = (60 * x3.toInt.toNat + x4.toInt.toNat) ∧ (b = sr ∨ b = ir ∨ b = wr)) → I103 b k = I b k := fun b k z => (show I103 b k = I57 b k by rw [eC103, up2_ne _ _ (by by_cases h1 : b = wr; exact Or.inr (fun h2 => z ⟨h2, by simp [h1]⟩); exact Or.inl h1)]).trans (oth57 b k z)
          exact r_vret hC hQ hlk hr (by decide) (by decide) dX0_creepBy_108 ⟨_, rfl, rfl, ⟨hs103, hF103, (by exact csr_103), (by have h9 := cir_103; omega), (by have h9 := cwr_103; first | (rw [if_pos ⟨by omega, by omega⟩]; omega) | (rw [if_neg (fun h8 => by have h7 := h8.1; have h6 := h8.2; omega)]; omega)), (by exact oth103)⟩⟩

