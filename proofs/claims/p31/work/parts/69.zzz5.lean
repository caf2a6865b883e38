def CRj (D : DD) (s : Nat) (A : Nat → Int) (sr ir wr n p : Nat) (I : Nat → Nat → Int32) : Prop := ∀ d q : Nat, (d < n ∨ (d = n ∧ q < p)) → (q : Int) < D 0 5 → (I sr (60 * q + d)).toInt = SV D s A d q ∧ (I ir (60 * q + d)).toInt = NV D s A d q ∧ (I wr (60 * q + d)).toInt = WV D s A d q
section RUN
variable {D : DD} {s : Nat} {A : Nat → Int} {sr ir wr n p : Nat} {I I1 : Nat → Nat → Int32}
theorem CRj.peg (h : CRj D s A sr ir wr n p I) (hn : n < 60) (h1 : (I1 sr (60 * p + n)).toInt = SV D s A n p) (h2 : (I1 ir (60 * p + n)).toInt = NV D s A n p) (h3 : (I1 wr (60 * p + n)).toInt = WV D s A n p) (ho : ∀ b k, (b = sr ∨ b = ir ∨ b = wr) → k ≠ 60 * p + n → I1 b k = I b k) : CRj D s A sr ir wr n (p + 1) I1 := by
  intro d q hd hq
  by_cases hc : d = n ∧ q = p
  · obtain ⟨rfl, rfl⟩ := hc; exact ⟨h1, h2, h3⟩
  · have hne : 60 * q + d ≠ 60 * p + n := by omega
    rw [ho sr _ (Or.inl rfl) hne, ho ir _ (Or.inr (Or.inl rfl)) hne, ho wr _ (Or.inr (Or.inr rfl)) hne]
    exact h d q (by omega) hq
theorem CRj.day (h : CRj D s A sr ir wr n p I) (hp : D 0 5 ≤ (p : Int)) : CRj D s A sr ir wr (n + 1) 0 I := fun d q hd hq => h d q (by omega) hq
theorem CRj.eq (h : CRj D s A sr ir wr n p I) (e : ∀ b k, b = sr ∨ b = ir ∨ b = wr → I1 b k = I b k) : CRj D s A sr ir wr n p I1 := by
  intro d q hd hq
  rw [e sr _ (Or.inl rfl), e ir _ (Or.inr (Or.inl rfl)), e wr _ (Or.inr (Or.inr rfl))]; exact h d q hd hq
theorem CRj_0 : CRj D s A sr ir wr 0 0 I := fun d q hd _ => by omega
end RUN
set_option maxHeartbeats 4000000 in
set_option maxRecDepth 100000 in
theorem f_X10_speedOf (g : GG) (l : Launch) (K len : Nat → Nat) (I : Nat → Nat → Int32) (J : Nat → Nat → Int64) (R : Nat → Nat → Option Nat) (hs : Sf K len I R) (a0 : Nat) (ka0 : K a0 = 11) (x1 : Int32) (x2 : Int32) (x3 : Int32) (x4 : Int32) (hm : Nat) (hbm : R a0 3 = some hm) (khm : K hm = 10) (sr : Nat) (hsr : R a0 16 = some sr) (ksr : K sr = 86) (lsr : len sr = 300) (ir : Nat) (hir : R a0 17 = some ir) (kir : K ir = 87) (lir : len ir = 300) (wr : Nat) (hwr : R a0 18 = some wr) (kwr : K wr = 88) (lwr : len wr = 300) (D : DD) (hJ : DJ D) (rwm : RW (CM hm R) (cntN D) D I) (hsk : x1.toInt < D 0 7) (A : Nat → Int) (hA : x4.toInt = A x3.toInt.toNat ∧ 0 ≤ x4.toInt ∧ x4.toInt ≤ 300000) (v : Int) (w : Int) (hvw : (0 ≤ v ∧ v ≤ 30100) ∧ 0 ≤ w ∧ w ≤ 2000000) (h0 : x3.toInt = 0 → v = 0 ∧ w = 0) (hv : 0 < x3.toInt → (I sr (60 * x2.toInt.toNat + x3.toInt.toNat - 1)).toInt = v) (hw : 0 < x3.toInt → (I wr (60 * x2.toInt.toNat + x3.toInt.toNat - 1)).toInt = w) (hp : x2.toInt < D 0 5) (hd5 : (I hm 3).toInt = D 0 5) (hd7 : (I hm 7).toInt = D 0 7) (p0 : 0 ≤ x1.toInt) (p1 : 0 ≤ x2.toInt) (p2 : 0 ≤ x3.toInt) (p3 : x3.toInt ≤ 59) : Ct g l yX10_speedOf cX10_speedOf 8 (Option.some Jvm.ClassFile.FieldType.int) rmX10_speedOf [.ref a0, .int x1, .int x2, .int x3, .int x4] (K, len, I, J, R) (pI0 (K, len, I, J, R) (fun r => (r.toInt = Sp D x1.toInt.toNat A x3.toInt.toNat v w x2.toInt.toNat))) := by
  refine Ct_intro (by decide +kernel) (Nat.le_of_ble_eq_true rfl) (fun X hC hL hKK hNm hr hlk hQ => ?_)
  subst hL
  have hC : Cx g X cX10_speedOf "HillTapModel" 8 rmX10_speedOf := hC
  show P g X 8 0 [(0, .ref a0), (1, .int x1), (2, .int x2), (3, .int x3), (4, .int x4)] [] 0 0 (K, len, I, J, R)
  have hF : Fr K [] I I := Fr.refl
  have j1 : 0 ≤ D 1 x2.toInt.toNat ∧ D 1 x2.toInt.toNat ≤ 999 := hJ.2.2.2.1 1 _ (by decide) (by decide) (by decide)
  have j2 : 0 ≤ D 2 x2.toInt.toNat ∧ D 2 x2.toInt.toNat ≤ 999 := hJ.2.2.2.1 2 _ (by decide) (by decide) (by decide)
  have j7 := hJ.k7 x1.toInt.toNat
  have b5 := hs.rng khm (k := 3) rfl (x := I hm 3) rfl
  have b7 := hs.rng khm (k := 7) rfl (x := I hm 7) rfl
  have b_x1 := ti_rng x1
  have b_x2 := ti_rng x2
  have b_x3 := ti_rng x3
  have b_x4 := ti_rng x4
  refine r_bipush hC (v := (60)) dX10_speedOf_0 (by decide) (by decide) (fun x1_ e1 t1 => ?_)
  refine r_iload_n hC dX10_speedOf_2 2 rfl ?_
  refine r_imul hC dX10_speedOf_3 (fun x2_ e2 => ?_)
  try have t2 : x2_.toInt = (60) * x2.toInt := by rw [e2]; exact ti_mul (by omega) rfl (by omega) (by omega)
  refine r_iload_n hC dX10_speedOf_4 3 rfl ?_
  refine r_iadd hC dX10_speedOf_5 (fun x3_ e3 => ?_)
  try have t3 : x3_.toInt = x2_.toInt + x3.toInt := by rw [e3]; exact ti_add (by omega) (by omega)
  refine r_iconst hC (v := (1)) dX10_speedOf_6 (by decide) (by decide) (fun x4_ e4 t4 => ?_)
  refine r_isub hC dX10_speedOf_7 (fun x5_ e5 => ?_)
  try have t5 : x5_.toInt = x3_.toInt - x4_.toInt := by rw [e5]; exact ti_sub (by omega) (by omega)
  refine r_istore hC (lv' := [(5, .int x5_), (0, .ref a0), (1, .int x1), (2, .int x2), (3, .int x3), (4, .int x4)]) dX10_speedOf_8 (by decide) rfl ?_
  refine r_aload_n hC dX10_speedOf_10 1 rfl ?_
  refine r_getr hC 3 (ci := 10) rfl u10_in (by decide) mT_4_238 dX10_speedOf_11 ka0 rfl rfl hbm ?_
  obtain ⟨a6_, hb6, hk6, hn6⟩ := hs.row khm 12 71 5 (by decide) (by decide)
  refine r_getrN hC 12 (ci := 9) rfl u9_in (by decide) nF_12 dX10_speedOf_14 khm rfl rfl hb6 ?_
  refine r_iload_n hC dX10_speedOf_17 3 rfl ?_
  refine x_iaload hC hk6 hn6 (by decide) rfl rfl dX10_speedOf_18 (by omega) (by omega) (fun x7_ e7 => ?_)
  have qbed : x7_.toInt = D 2 x2.toInt.toNat := by rw [e7, clx (i := x2) rfl (by omega)]; exact rwm 2 _ _ _ (cM (r := 2) (by decide) (by decide) hb6) (by rw [cnt_2]; omega) (fun h9 => absurd h9 (by decide))
  refine r_iload_n hC dX10_speedOf_19 4 rfl ?_
  refine r_if_ne hC (tgt := 27) dX10_speedOf_20 (by decide) (fun c8 => ?_) (fun c8 => ?_)
  · refine r_aload_n hC dX10_speedOf_27 1 rfl ?_
    refine r_getr hC 18 (ci := 10) rfl u10_in (by decide) mT_5_13 dX10_speedOf_28 ka0 rfl rfl hwr ?_
    refine r_iload hC dX10_speedOf_31 0 rfl ?_
    refine x_iaload hC kwr lwr (by decide) rfl rfl dX10_speedOf_33 (by omega) (by omega) (fun x9_ e9 => ?_)
    have qw : x9_.toInt = w := by rw [e9, clx (i := x5_) rfl (by omega), show x5_.toInt.toNat = 60 * x2.toInt.toNat + x3.toInt.toNat - 1 by omega]; exact hw (by omega)
    refine r_isub hC dX10_speedOf_34 (fun x10_ e10 => ?_)
    try have t10 : x10_.toInt = x7_.toInt - x9_.toInt := by rw [e10]; exact ti_sub (by omega) (by omega)
    refine r_istore hC (lv' := [(6, .int x10_), (5, .int x5_), (0, .ref a0), (1, .int x1), (2, .int x2), (3, .int x3), (4, .int x4)]) dX10_speedOf_35 (by decide) rfl ?_
    refine r_iload hC dX10_speedOf_37 0 rfl ?_
    refine r_if_lt hC (tgt := 78) dX10_speedOf_39 (by decide) (fun c11 => ?_) (fun c11 => ?_)
    · refine r_iconst hC (v := (0)) dX10_speedOf_78 (by decide) (by decide) (fun x12_ e12 t12 => ?_)
      refine r_istore hC (lv' := [(6, .int x12_), (5, .int x5_), (0, .ref a0), (1, .int x1), (2, .int x2), (3, .int x3), (4, .int x4)]) dX10_speedOf_79 (by decide) rfl ?_
      refine r_aload_n hC dX10_speedOf_81 2 rfl ?_
      refine r_getr hC 3 (ci := 10) rfl u10_in (by decide) mT_4_238 dX10_speedOf_82 ka0 rfl rfl hbm ?_
      obtain ⟨a13_, hb13, hk13, hn13⟩ := hs.row khm 11 70 5 (by decide) (by decide)
      refine r_getrN hC 11 (ci := 9) rfl u9_in (by decide) nF_11 dX10_speedOf_85 khm rfl rfl hb13 ?_
      refine r_iload_n hC dX10_speedOf_88 4 rfl ?_
      refine x_iaload hC hk13 hn13 (by decide) rfl rfl dX10_speedOf_89 (by omega) (by omega) (fun x14_ e14 => ?_)
      have qpush : x14_.toInt = D 1 x2.toInt.toNat := by rw [e14, clx (i := x2) rfl (by omega)]; exact rwm 1 _ _ _ (cM (r := 1) (by decide) (by decide) hb13) (by rw [cnt_1]; omega) (fun h9 => absurd h9 (by decide))
      refine r_iload hC dX10_speedOf_90 6 rfl ?_
      refine r_iadd hC dX10_speedOf_92 (fun x15_ e15 => ?_)
      try have t15 : x15_.toInt = x14_.toInt + x4.toInt := by rw [e15]; exact ti_add (by omega) (by omega)
      refine r_iload hC dX10_speedOf_93 0 rfl ?_
      refine r_isub hC dX10_speedOf_95 (fun x16_ e16 => ?_)
      try have t16 : x16_.toInt = x15_.toInt - x12_.toInt := by rw [e16]; exact ti_sub (by omega) (by omega)
      refine r_istore hC (lv' := [(7, .int x16_), (6, .int x12_), (5, .int x5_), (0, .ref a0), (1, .int x1), (2, .int x2), (3, .int x3), (4, .int x4)]) dX10_speedOf_96 (by decide) rfl ?_
      refine r_iload hC dX10_speedOf_98 0 rfl ?_
      refine r_if_ge hC (tgt := 107) dX10_speedOf_100 (by decide) (fun c17 => ?_) (fun c17 => ?_)
      · refine r_iload hC dX10_speedOf_107 0 rfl ?_
        refine r_bipush hC (v := (10)) dX10_speedOf_109 (by decide) (by decide) (fun x18_ e18 t18 => ?_)
        refine r_idiv hC dX10_speedOf_111 (ne_0 (by omega)) (fun x19_ e19 => ?_)
        have td19 : x19_.toInt = x16_.toInt / 10 := by rw [e19, ti_div (by omega) (by omega), show x18_.toInt = 10 by omega]
        exact r_iret hC hQ hlk hr rfl (by decide) (by decide) dX10_speedOf_112 ⟨_, rfl, rfl, (by unfold Sp; first | (rw [Rs_q ⟨by omega, by omega, by omega⟩]; omega) | (rw [Rs_n (fun h9 => by have h8 := h9.1; have h7 := h9.2.1; have h6 := h9.2.2; omega)]; omega) | (have h5 : Rs D x1.toInt.toNat x3.toInt.toNat v w x2.toInt.toNat = 0 := by {unfold Rs; split <;> omega}; rw [h5]; omega))⟩
      · refine r_iconst hC (v := (0)) dX10_speedOf_103 (by decide) (by decide) (fun x20_ e20 t20 => ?_)
        refine r_goto hC (tgt := 112) dX10_speedOf_104 (by decide) ?_
        exact r_iret hC hQ hlk hr rfl (by decide) (by decide) dX10_speedOf_112 ⟨_, rfl, rfl, (by unfold Sp; first | (rw [Rs_q ⟨by omega, by omega, by omega⟩]; omega) | (rw [Rs_n (fun h9 => by have h8 := h9.1; have h7 := h9.2.1; have h6 := h9.2.2; omega)]; omega) | (have h5 : Rs D x1.toInt.toNat x3.toInt.toNat v w x2.toInt.toNat = 0 := by {unfold Rs; split <;> omega}; rw [h5]; omega))⟩
    · refine r_aload_n hC dX10_speedOf_42 2 rfl ?_
      refine r_getr hC 3 (ci := 10) rfl u10_in (by decide) mT_4_238 dX10_speedOf_43 ka0 rfl rfl hbm ?_
      obtain ⟨kd21, mo21, hb21, hk21, hn21, hB21, hK21, hN21⟩ := hs.2.2.1 hm khm
      refine r_getrN hC 17 (ci := 9) rfl u9_in (by decide) nF_17 dX10_speedOf_46 khm rfl rfl hb21 ?_
      refine r_iload_n hC dX10_speedOf_49 3 rfl ?_
      refine x_iaload hC hk21 hn21 (by omega) (kOb (by omega)) (kAb (by omega)) dX10_speedOf_50 (by omega) (by omega) (fun x22_ e22 => ?_)
      have qkd : x22_.toInt = D 7 x1.toInt.toNat := by rw [e22, clx (i := x1) rfl (by omega)]; exact rwm 7 _ _ _ (cM (r := 7) (by decide) (by decide) hb21) (by rw [cnt_7]; omega) (fun h9 => absurd h9 (by decide))
      refine r_iconst hC (v := (4)) dX10_speedOf_51 (by decide) (by decide) (fun x23_ e23 t23 => ?_)
      refine r_icmp_ne hC (tgt := 81) dX10_speedOf_52 (by decide) (fun c24 => ?_) (fun c24 => ?_)
      · refine r_aload_n hC dX10_speedOf_81 2 rfl ?_
        refine r_getr hC 3 (ci := 10) rfl u10_in (by decide) mT_4_238 dX10_speedOf_82 ka0 rfl rfl hbm ?_
        obtain ⟨a25_, hb25, hk25, hn25⟩ := hs.row khm 11 70 5 (by decide) (by decide)
        refine r_getrN hC 11 (ci := 9) rfl u9_in (by decide) nF_11 dX10_speedOf_85 khm rfl rfl hb25 ?_
        refine r_iload_n hC dX10_speedOf_88 4 rfl ?_
        refine x_iaload hC hk25 hn25 (by decide) rfl rfl dX10_speedOf_89 (by omega) (by omega) (fun x26_ e26 => ?_)
        have qpush : x26_.toInt = D 1 x2.toInt.toNat := by rw [e26, clx (i := x2) rfl (by omega)]; exact rwm 1 _ _ _ (cM (r := 1) (by decide) (by decide) hb25) (by rw [cnt_1]; omega) (fun h9 => absurd h9 (by decide))
        refine r_iload hC dX10_speedOf_90 6 rfl ?_
        refine r_iadd hC dX10_speedOf_92 (fun x27_ e27 => ?_)
        try have t27 : x27_.toInt = x26_.toInt + x4.toInt := by rw [e27]; exact ti_add (by omega) (by omega)
        refine r_iload hC dX10_speedOf_93 0 rfl ?_
        refine r_isub hC dX10_speedOf_95 (fun x28_ e28 => ?_)
        try have t28 : x28_.toInt = x27_.toInt - x10_.toInt := by rw [e28]; exact ti_sub (by omega) (by omega)
        refine r_istore hC (lv' := [(7, .int x28_), (6, .int x10_), (5, .int x5_), (0, .ref a0), (1, .int x1), (2, .int x2), (3, .int x3), (4, .int x4)]) dX10_speedOf_96 (by decide) rfl ?_
        refine r_iload hC dX10_speedOf_98 0 rfl ?_
        refine r_if_ge hC (tgt := 107) dX10_speedOf_100 (by decide) (fun c29 => ?_) (fun c29 => ?_)
        · refine r_iload hC dX10_speedOf_107 0 rfl ?_
          refine r_bipush hC (v := (10)) dX10_speedOf_109 (by decide) (by decide) (fun x30_ e30 t30 => ?_)
          refine r_idiv hC dX10_speedOf_111 (ne_0 (by omega)) (fun x31_ e31 => ?_)
          have td31 : x31_.toInt = x28_.toInt / 10 := by rw [e31, ti_div (by omega) (by omega), show x30_.toInt = 10 by omega]
          exact r_iret hC hQ hlk hr rfl (by decide) (by decide) dX10_speedOf_112 ⟨_, rfl, rfl, (by unfold Sp; first | (rw [Rs_q ⟨by omega, by omega, by omega⟩]; omega) | (rw [Rs_n (fun h9 => by have h8 := h9.1; have h7 := h9.2.1; have h6 := h9.2.2; omega)]; omega) | (have h5 : Rs D x1.toInt.toNat x3.toInt.toNat v w x2.toInt.toNat = 0 := by {unfold Rs; split <;> omega}; rw [h5]; omega))⟩
        · refine r_iconst hC (v := (0)) dX10_speedOf_103 (by decide) (by decide) (fun x32_ e32 t32 => ?_)
          refine r_goto hC (tgt := 112) dX10_speedOf_104 (by decide) ?_
          exact r_iret hC hQ hlk hr rfl (by decide) (by decide) dX10_speedOf_112 ⟨_, rfl, rfl, (by unfold Sp; first | (rw [Rs_q ⟨by omega, by omega, by omega⟩]; omega) | (rw [Rs_n (fun h9 => by have h8 := h9.1; have h7 := h9.2.1; have h6 := h9.2.2; omega)]; omega) | (have h5 : Rs D x1.toInt.toNat x3.toInt.toNat v w x2.toInt.toNat = 0 := by {unfold Rs; split <;> omega}; rw [h5]; omega))⟩
      · refine r_iload_n hC dX10_speedOf_55 5 rfl ?_
        refine r_if_le hC (tgt := 81) dX10_speedOf_56 (by decide) (fun c33 => ?_) (fun c33 => ?_)
        · refine r_aload_n hC dX10_speedOf_81 2 rfl ?_
          refine r_getr hC 3 (ci := 10) rfl u10_in (by decide) mT_4_238 dX10_speedOf_82 ka0 rfl rfl hbm ?_
          obtain ⟨a34_, hb34, hk34, hn34⟩ := hs.row khm 11 70 5 (by decide) (by decide)
          refine r_getrN hC 11 (ci := 9) rfl u9_in (by decide) nF_11 dX10_speedOf_85 khm rfl rfl hb34 ?_
          refine r_iload_n hC dX10_speedOf_88 4 rfl ?_
          refine x_iaload hC hk34 hn34 (by decide) rfl rfl dX10_speedOf_89 (by omega) (by omega) (fun x35_ e35 => ?_)
          have qpush : x35_.toInt = D 1 x2.toInt.toNat := by rw [e35, clx (i := x2) rfl (by omega)]; exact rwm 1 _ _ _ (cM (r := 1) (by decide) (by decide) hb34) (by rw [cnt_1]; omega) (fun h9 => absurd h9 (by decide))
          refine r_iload hC dX10_speedOf_90 6 rfl ?_
          refine r_iadd hC dX10_speedOf_92 (fun x36_ e36 => ?_)
          try have t36 : x36_.toInt = x35_.toInt + x4.toInt := by rw [e36]; exact ti_add (by omega) (by omega)
          refine r_iload hC dX10_speedOf_93 0 rfl ?_
          refine r_isub hC dX10_speedOf_95 (fun x37_ e37 => ?_)
          try have t37 : x37_.toInt = x36_.toInt - x10_.toInt := by rw [e37]; exact ti_sub (by omega) (by omega)
          refine r_istore hC (lv' := [(7, .int x37_), (6, .int x10_), (5, .int x5_), (0, .ref a0), (1, .int x1), (2, .int x2), (3, .int x3), (4, .int x4)]) dX10_speedOf_96 (by decide) rfl ?_
          refine r_iload hC dX10_speedOf_98 0 rfl ?_
          refine r_if_ge hC (tgt := 107) dX10_speedOf_100 (by decide) (fun c38 => ?_) (fun c38 => ?_)
          · refine r_iload hC dX10_speedOf_107 0 rfl ?_
            refine r_bipush hC (v := (10)) dX10_speedOf_109 (by decide) (by decide) (fun x39_ e39 t39 => ?_)
            refine r_idiv hC dX10_speedOf_111 (ne_0 (by omega)) (fun x40_ e40 => ?_)
            have td40 : x40_.toInt = x37_.toInt / 10 := by rw [e40, ti_div (by omega) (by omega), show x39_.toInt = 10 by omega]
            exact r_iret hC hQ hlk hr rfl (by decide) (by decide) dX10_speedOf_112 ⟨_, rfl, rfl, (by unfold Sp; first | (rw [Rs_q ⟨by omega, by omega, by omega⟩]; omega) | (rw [Rs_n (fun h9 => by have h8 := h9.1; have h7 := h9.2.1; have h6 := h9.2.2; omega)]; omega) | (have h5 : Rs D x1.toInt.toNat x3.toInt.toNat v w x2.toInt.toNat = 0 := by {unfold Rs; split <;> omega}; rw [h5]; omega))⟩
          · refine r_iconst hC (v := (0)) dX10_speedOf_103 (by decide) (by decide) (fun x41_ e41 t41 => ?_)
            refine r_goto hC (tgt := 112) dX10_speedOf_104 (by decide) ?_
            exact r_iret hC hQ hlk hr rfl (by decide) (by decide) dX10_speedOf_112 ⟨_, rfl, rfl, (by unfold Sp; first | (rw [Rs_q ⟨by omega, by omega, by omega⟩]; omega) | (rw [Rs_n (fun h9 => by have h8 := h9.1; have h7 := h9.2.1; have h6 := h9.2.2; omega)]; omega) | (have h5 : Rs D x1.toInt.toNat x3.toInt.toNat v w x2.toInt.toNat = 0 := by {unfold Rs; split <;> omega}; rw [h5]; omega))⟩
        · refine r_aload_n hC dX10_speedOf_59 2 rfl ?_
          refine r_getr hC 16 (ci := 10) rfl u10_in (by decide) mT_5_11 dX10_speedOf_60 ka0 rfl rfl hsr ?_
          refine r_iload hC dX10_speedOf_63 1 rfl ?_
          refine x_iaload hC ksr lsr (by decide) rfl rfl dX10_speedOf_65 (by omega) (by omega) (fun x42_ e42 => ?_)
          have qv : x42_.toInt = v := by rw [e42, clx (i := x5_) rfl (by omega), show x5_.toInt.toNat = 60 * x2.toInt.toNat + x3.toInt.toNat - 1 by omega]; exact hv (by omega)
          refine r_aload_n hC dX10_speedOf_66 2 rfl ?_
          refine r_getr hC 3 (ci := 10) rfl u10_in (by decide) mT_4_238 dX10_speedOf_67 ka0 rfl rfl hbm ?_
          refine r_getrN hC 19 (ci := 9) rfl u9_in (by decide) nF_19 dX10_speedOf_70 khm rfl rfl hB21 ?_
          refine r_iload_n hC dX10_speedOf_73 3 rfl ?_
          refine x_iaload hC hK21 hN21 (by omega) (kOb (by omega)) (kAb (by omega)) dX10_speedOf_74 (by omega) (by omega) (fun x43_ e43 => ?_)
          have qmo : x43_.toInt = D 9 x1.toInt.toNat := by rw [e43, clx (i := x1) rfl (by omega)]; exact rwm 9 _ _ _ (cM (r := 9) (by decide) (by decide) hB21) (by rw [cnt_9]; omega) (fun _ => by omega)
          refine r_icmp_lt hC (tgt := 81) dX10_speedOf_75 (by decide) (fun c44 => ?_) (fun c44 => ?_)
          · refine r_aload_n hC dX10_speedOf_81 2 rfl ?_
            refine r_getr hC 3 (ci := 10) rfl u10_in (by decide) mT_4_238 dX10_speedOf_82 ka0 rfl rfl hbm ?_
            obtain ⟨a45_, hb45, hk45, hn45⟩ := hs.row khm 11 70 5 (by decide) (by decide)
            refine r_getrN hC 11 (ci := 9) rfl u9_in (by decide) nF_11 dX10_speedOf_85 khm rfl rfl hb45 ?_
            refine r_iload_n hC dX10_speedOf_88 4 rfl ?_
            refine x_iaload hC hk45 hn45 (by decide) rfl rfl dX10_speedOf_89 (by omega) (by omega) (fun x46_ e46 => ?_)
            have qpush : x46_.toInt = D 1 x2.toInt.toNat := by rw [e46, clx (i := x2) rfl (by omega)]; exact rwm 1 _ _ _ (cM (r := 1) (by decide) (by decide) hb45) (by rw [cnt_1]; omega) (fun h9 => absurd h9 (by decide))
            refine r_iload hC dX10_speedOf_90 6 rfl ?_
            refine r_iadd hC dX10_speedOf_92 (fun x47_ e47 => ?_)
            try have t47 : x47_.toInt = x46_.toInt + x4.toInt := by rw [e47]; exact ti_add (by omega) (by omega)
            refine r_iload hC dX10_speedOf_93 0 rfl ?_
            refine r_isub hC dX10_speedOf_95 (fun x48_ e48 => ?_)
            try have t48 : x48_.toInt = x47_.toInt - x10_.toInt := by rw [e48]; exact ti_sub (by omega) (by omega)
            refine r_istore hC (lv' := [(7, .int x48_), (6, .int x10_), (5, .int x5_), (0, .ref a0), (1, .int x1), (2, .int x2), (3, .int x3), (4, .int x4)]) dX10_speedOf_96 (by decide) rfl ?_
            refine r_iload hC dX10_speedOf_98 0 rfl ?_
            refine r_if_ge hC (tgt := 107) dX10_speedOf_100 (by decide) (fun c49 => ?_) (fun c49 => ?_)
            · refine r_iload hC dX10_speedOf_107 0 rfl ?_
              refine r_bipush hC (v := (10)) dX10_speedOf_109 (by decide) (by decide) (fun x50_ e50 t50 => ?_)
              refine r_idiv hC dX10_speedOf_111 (ne_0 (by omega)) (fun x51_ e51 => ?_)
              have td51 : x51_.toInt = x48_.toInt / 10 := by rw [e51, ti_div (by omega) (by omega), show x50_.toInt = 10 by omega]
              exact r_iret hC hQ hlk hr rfl (by decide) (by decide) dX10_speedOf_112 ⟨_, rfl, rfl, (by unfold Sp; first | (rw [Rs_q ⟨by omega, by omega, by omega⟩]; omega) | (rw [Rs_n (fun h9 => by have h8 := h9.1; have h7 := h9.2.1; have h6 := h9.2.2; omega)]; omega) | (have h5 : Rs D x1.toInt.toNat x3.toInt.toNat v w x2.toInt.toNat = 0 := by {unfold Rs; split <;> omega}; rw [h5]; omega))⟩
            · refine r_iconst hC (v := (0)) dX10_speedOf_103 (by decide) (by decide) (fun x52_ e52 t52 => ?_)
              refine r_goto hC (tgt := 112) dX10_speedOf_104 (by decide) ?_
              exact r_iret hC hQ hlk hr rfl (by decide) (by decide) dX10_speedOf_112 ⟨_, rfl, rfl, (by unfold Sp; first | (rw [Rs_q ⟨by omega, by omega, by omega⟩]; omega) | (rw [Rs_n (fun h9 => by have h8 := h9.1; have h7 := h9.2.1; have h6 := h9.2.2; omega)]; omega) | (have h5 : Rs D x1.toInt.toNat x3.toInt.toNat v w x2.toInt.toNat = 0 := by {unfold Rs; split <;> omega}; rw [h5]; omega))⟩
          · refine r_iconst hC (v := (0)) dX10_speedOf_78 (by decide) (by decide) (fun x53_ e53 t53 => ?_)
            refine r_istore hC (lv' := [(6, .int x53_), (5, .int x5_), (0, .ref a0), (1, .int x1), (2, .int x2), (3, .int x3), (4, .int x4)]) dX10_speedOf_79 (by decide) rfl ?_
            refine r_aload_n hC dX10_speedOf_81 2 rfl ?_
            refine r_getr hC 3 (ci := 10) rfl u10_in (by decide) mT_4_238 dX10_speedOf_82 ka0 rfl rfl hbm ?_
            obtain ⟨a54_, hb54, hk54, hn54⟩ := hs.row khm 11 70 5 (by decide) (by decide)
            refine r_getrN hC 11 (ci := 9) rfl u9_in (by decide) nF_11 dX10_speedOf_85 khm rfl rfl hb54 ?_
            refine r_iload_n hC dX10_speedOf_88 4 rfl ?_
            refine x_iaload hC hk54 hn54 (by decide) rfl rfl dX10_speedOf_89 (by omega) (by omega) (fun x55_ e55 => ?_)
            have qpush : x55_.toInt = D 1 x2.toInt.toNat := by rw [e55, clx (i := x2) rfl (by omega)]; exact rwm 1 _ _ _ (cM (r := 1) (by decide) (by decide) hb54) (by rw [cnt_1]; omega) (fun h9 => absurd h9 (by decide))
            refine r_iload hC dX10_speedOf_90 6 rfl ?_
            refine r_iadd hC dX10_speedOf_92 (fun x56_ e56 => ?_)
            try have t56 : x56_.toInt = x55_.toInt + x4.toInt := by rw [e56]; exact ti_add (by omega) (by omega)
            refine r_iload hC dX10_speedOf_93 0 rfl ?_
            refine r_isub hC dX10_speedOf_95 (fun x57_ e57 => ?_)
            try have t57 : x57_.toInt = x56_.toInt - x53_.toInt := by rw [e57]; exact ti_sub (by omega) (by omega)
            refine r_istore hC (lv' := [(7, .int x57_), (6, .int x53_), (5, .int x5_), (0, .ref a0), (1, .int x1), (2, .int x2), (3, .int x3), (4, .int x4)]) dX10_speedOf_96 (by decide) rfl ?_
            refine r_iload hC dX10_speedOf_98 0 rfl ?_
            refine r_if_ge hC (tgt := 107) dX10_speedOf_100 (by decide) (fun c58 => ?_) (fun c58 => ?_)
            · refine r_iload hC dX10_speedOf_107 0 rfl ?_
              refine r_bipush hC (v := (10)) dX10_speedOf_109 (by decide) (by decide) (fun x59_ e59 t59 => ?_)
              refine r_idiv hC dX10_speedOf_111 (ne_0 (by omega)) (fun x60_ e60 => ?_)
              have td60 : x60_.toInt = x57_.toInt / 10 := by rw [e60, ti_div (by omega) (by omega), show x59_.toInt = 10 by omega]
              exact r_iret hC hQ hlk hr rfl (by decide) (by decide) dX10_speedOf_112 ⟨_, rfl, rfl, (by unfold Sp; first | (rw [Rs_q ⟨by omega, by omega, by omega⟩]; omega) | (rw [Rs_n (fun h9 => by have h8 := h9.1; have h7 := h9.2.1; have h6 := h9.2.2; omega)]; omega) | (have h5 : Rs D x1.toInt.toNat x3.toInt.toNat v w x2.toInt.toNat = 0 := by {unfold Rs; split <;> omega}; rw [h5]; omega))⟩
            · refine r_iconst hC (v := (0)) dX10_speedOf_103 (by decide) (by decide) (fun x61_ e61 t61 => ?_)
              refine r_goto hC (tgt := 112) dX10_speedOf_104 (by decide) ?_
              exact r_iret hC hQ hlk hr rfl (by decide) (by decide) dX10_speedOf_112 ⟨_, rfl, rfl, (by unfold Sp; first | (rw [Rs_q ⟨by omega, by omega, by omega⟩]; omega) | (rw [Rs_n (fun h9 => by have h8 := h9.1; have h7 := h9.2.1; have h6 := h9.2.2; omega)]; omega) | (have h5 : Rs D x1.toInt.toNat x3.toInt.toNat v w x2.toInt.toNat = 0 := by {unfold Rs; split <;> omega}; rw [h5]; omega))⟩
  · refine r_iconst hC (v := (0)) dX10_speedOf_23 (by decide) (by decide) (fun x62_ e62 t62 => ?_)
    refine r_goto hC (tgt := 34) dX10_speedOf_24 (by decide) ?_
    refine r_isub hC dX10_speedOf_34 (fun x63_ e63 => ?_)
    try have t63 : x63_.toInt = x7_.toInt - x62_.toInt := by rw [e63]; exact ti_sub (by omega) (by omega)
    refine r_istore hC (lv' := [(6, .int x63_), (5, .int x5_), (0, .ref a0), (1, .int x1), (2, .int x2), (3, .int x3), (4, .int x4)]) dX10_speedOf_35 (by decide) rfl ?_
    refine r_iload hC dX10_speedOf_37 0 rfl ?_
    refine r_if_lt hC (tgt := 78) dX10_speedOf_39 (by decide) (fun c64 => ?_) (fun c64 => ?_)
    · refine r_iconst hC (v := (0)) dX10_speedOf_78 (by decide) (by decide) (fun x65_ e65 t65 => ?_)
      refine r_istore hC (lv' := [(6, .int x65_), (5, .int x5_), (0, .ref a0), (1, .int x1), (2, .int x2), (3, .int x3), (4, .int x4)]) dX10_speedOf_79 (by decide) rfl ?_
      refine r_aload_n hC dX10_speedOf_81 2 rfl ?_
      refine r_getr hC 3 (ci := 10) rfl u10_in (by decide) mT_4_238 dX10_speedOf_82 ka0 rfl rfl hbm ?_
      obtain ⟨a66_, hb66, hk66, hn66⟩ := hs.row khm 11 70 5 (by decide) (by decide)
      refine r_getrN hC 11 (ci := 9) rfl u9_in (by decide) nF_11 dX10_speedOf_85 khm rfl rfl hb66 ?_
      refine r_iload_n hC dX10_speedOf_88 4 rfl ?_
      refine x_iaload hC hk66 hn66 (by decide) rfl rfl dX10_speedOf_89 (by omega) (by omega) (fun x67_ e67 => ?_)
      have qpush : x67_.toInt = D 1 x2.toInt.toNat := by rw [e67, clx (i := x2) rfl (by omega)]; exact rwm 1 _ _ _ (cM (r := 1) (by decide) (by decide) hb66) (by rw [cnt_1]; omega) (fun h9 => absurd h9 (by decide))
      refine r_iload hC dX10_speedOf_90 6 rfl ?_
      refine r_iadd hC dX10_speedOf_92 (fun x68_ e68 => ?_)
      try have t68 : x68_.toInt = x67_.toInt + x4.toInt := by rw [e68]; exact ti_add (by omega) (by omega)
      refine r_iload hC dX10_speedOf_93 0 rfl ?_
      refine r_isub hC dX10_speedOf_95 (fun x69_ e69 => ?_)
      try have t69 : x69_.toInt = x68_.toInt - x65_.toInt := by rw [e69]; exact ti_sub (by omega) (by omega)
      refine r_istore hC (lv' := [(7, .int x69_), (6, .int x65_), (5, .int x5_), (0, .ref a0), (1, .int x1), (2, .int x2), (3, .int x3), (4, .int x4)]) dX10_speedOf_96 (by decide) rfl ?_
      refine r_iload hC dX10_speedOf_98 0 rfl ?_
      refine r_if_ge hC (tgt := 107) dX10_speedOf_100 (by decide) (fun c70 => ?_) (fun c70 => ?_)
      · refine r_iload hC dX10_speedOf_107 0 rfl ?_
        refine r_bipush hC (v := (10)) dX10_speedOf_109 (by decide) (by decide) (fun x71_ e71 t71 => ?_)
        refine r_idiv hC dX10_speedOf_111 (ne_0 (by omega)) (fun x72_ e72 => ?_)
        have td72 : x72_.toInt = x69_.toInt / 10 := by rw [e72, ti_div (by omega) (by omega), show x71_.toInt = 10 by omega]
        exact r_iret hC hQ hlk hr rfl (by decide) (by decide) dX10_speedOf_112 ⟨_, rfl, rfl, (by unfold Sp; first | (rw [Rs_q ⟨by omega, by omega, by omega⟩]; omega) | (rw [Rs_n (fun h9 => by have h8 := h9.1; have h7 := h9.2.1; have h6 := h9.2.2; omega)]; omega) | (have h5 : Rs D x1.toInt.toNat x3.toInt.toNat v w x2.toInt.toNat = 0 := by {unfold Rs; split <;> omega}; rw [h5]; omega))⟩
      · refine r_iconst hC (v := (0)) dX10_speedOf_103 (by decide) (by decide) (fun x73_ e73 t73 => ?_)
        refine r_goto hC (tgt := 112) dX10_speedOf_104 (by decide) ?_
        exact r_iret hC hQ hlk hr rfl (by decide) (by decide) dX10_speedOf_112 ⟨_, rfl, rfl, (by unfold Sp; first | (rw [Rs_q ⟨by omega, by omega, by omega⟩]; omega) | (rw [Rs_n (fun h9 => by have h8 := h9.1; have h7 := h9.2.1; have h6 := h9.2.2; omega)]; omega) | (have h5 : Rs D x1.toInt.toNat x3.toInt.toNat v w x2.toInt.toNat = 0 := by {unfold Rs; split <;> omega}; rw [h5]; omega))⟩
    · refine r_aload_n hC dX10_speedOf_42 2 rfl ?_
      refine r_getr hC 3 (ci := 10) rfl u10_in (by decide) mT_4_238 dX10_speedOf_43 ka0 rfl rfl hbm ?_
      obtain ⟨kd74, mo74, hb74, hk74, hn74, hB74, hK74, hN74⟩ := hs.2.2.1 hm khm
      refine r_getrN hC 17 (ci := 9) rfl u9_in (by decide) nF_17 dX10_speedOf_46 khm rfl rfl hb74 ?_
      refine r_iload_n hC dX10_speedOf_49 3 rfl ?_
      refine x_iaload hC hk74 hn74 (by omega) (kOb (by omega)) (kAb (by omega)) dX10_speedOf_50 (by omega) (by omega) (fun x75_ e75 => ?_)
      have qkd : x75_.toInt = D 7 x1.toInt.toNat := by rw [e75, clx (i := x1) rfl (by omega)]; exact rwm 7 _ _ _ (cM (r := 7) (by decide) (by decide) hb74) (by rw [cnt_7]; omega) (fun h9 => absurd h9 (by decide))
      refine r_iconst hC (v := (4)) dX10_speedOf_51 (by decide) (by decide) (fun x76_ e76 t76 => ?_)
      refine r_icmp_ne hC (tgt := 81) dX10_speedOf_52 (by decide) (fun c77 => ?_) (fun c77 => ?_)
      · refine r_aload_n hC dX10_speedOf_81 2 rfl ?_
        refine r_getr hC 3 (ci := 10) rfl u10_in (by decide) mT_4_238 dX10_speedOf_82 ka0 rfl rfl hbm ?_
        obtain ⟨a78_, hb78, hk78, hn78⟩ := hs.row khm 11 70 5 (by decide) (by decide)
        refine r_getrN hC 11 (ci := 9) rfl u9_in (by decide) nF_11 dX10_speedOf_85 khm rfl rfl hb78 ?_
        refine r_iload_n hC dX10_speedOf_88 4 rfl ?_
        refine x_iaload hC hk78 hn78 (by decide) rfl rfl dX10_speedOf_89 (by omega) (by omega) (fun x79_ e79 => ?_)
        have qpush : x79_.toInt = D 1 x2.toInt.toNat := by rw [e79, clx (i := x2) rfl (by omega)]; exact rwm 1 _ _ _ (cM (r := 1) (by decide) (by decide) hb78) (by rw [cnt_1]; omega) (fun h9 => absurd h9 (by decide))
        refine r_iload hC dX10_speedOf_90 6 rfl ?_
        refine r_iadd hC dX10_speedOf_92 (fun x80_ e80 => ?_)
        try have t80 : x80_.toInt = x79_.toInt + x4.toInt := by rw [e80]; exact ti_add (by omega) (by omega)
        refine r_iload hC dX10_speedOf_93 0 rfl ?_
        refine r_isub hC dX10_speedOf_95 (fun x81_ e81 => ?_)
        try have t81 : x81_.toInt = x80_.toInt - x63_.toInt := by rw [e81]; exact ti_sub (by omega) (by omega)
        refine r_istore hC (lv' := [(7, .int x81_), (6, .int x63_), (5, .int x5_), (0, .ref a0), (1, .int x1), (2, .int x2), (3, .int x3), (4, .int x4)]) dX10_speedOf_96 (by decide) rfl ?_
        refine r_iload hC dX10_speedOf_98 0 rfl ?_
        refine r_if_ge hC (tgt := 107) dX10_speedOf_100 (by decide) (fun c82 => ?_) (fun c82 => ?_)
        · refine r_iload hC dX10_speedOf_107 0 rfl ?_
          refine r_bipush hC (v := (10)) dX10_speedOf_109 (by decide) (by decide) (fun x83_ e83 t83 => ?_)
          refine r_idiv hC dX10_speedOf_111 (ne_0 (by omega)) (fun x84_ e84 => ?_)
          have td84 : x84_.toInt = x81_.toInt / 10 := by rw [e84, ti_div (by omega) (by omega), show x83_.toInt = 10 by omega]
          exact r_iret hC hQ hlk hr rfl (by decide) (by decide) dX10_speedOf_112 ⟨_, rfl, rfl, (by unfold Sp; first | (rw [Rs_q ⟨by omega, by omega, by omega⟩]; omega) | (rw [Rs_n (fun h9 => by have h8 := h9.1; have h7 := h9.2.1; have h6 := h9.2.2; omega)]; omega) | (have h5 : Rs D x1.toInt.toNat x3.toInt.toNat v w x2.toInt.toNat = 0 := by {unfold Rs; split <;> omega}; rw [h5]; omega))⟩
        · refine r_iconst hC (v := (0)) dX10_speedOf_103 (by decide) (by decide) (fun x85_ e85 t85 => ?_)
          refine r_goto hC (tgt := 112) dX10_speedOf_104 (by decide) ?_
          exact r_iret hC hQ hlk hr rfl (by decide) (by decide) dX10_speedOf_112 ⟨_, rfl, rfl, (by unfold Sp; first | (rw [Rs_q ⟨by omega, by omega, by omega⟩]; omega) | (rw [Rs_n (fun h9 => by have h8 := h9.1; have h7 := h9.2.1; have h6 := h9.2.2; omega)]; omega) | (have h5 : Rs D x1.toInt.toNat x3.toInt.toNat v w x2.toInt.toNat = 0 := by {unfold Rs; split <;> omega}; rw [h5]; omega))⟩
      · refine r_iload_n hC dX10_speedOf_55 5 rfl ?_
        refine r_if_le hC (tgt := 81) dX10_speedOf_56 (by decide) (fun c86 => ?_) (fun c86 => ?_)
        · refine r_aload_n hC dX10_speedOf_81 2 rfl ?_
          refine r_getr hC 3 (ci := 10) rfl u10_in (by decide) mT_4_238 dX10_speedOf_82 ka0 rfl rfl hbm ?_
          obtain ⟨a87_, hb87, hk87, hn87⟩ := hs.row khm 11 70 5 (by decide) (by decide)
          refine r_getrN hC 11 (ci := 9) rfl u9_in (by decide) nF_11 dX10_speedOf_85 khm rfl rfl hb87 ?_
          refine r_iload_n hC dX10_speedOf_88 4 rfl ?_
          refine x_iaload hC hk87 hn87 (by decide) rfl rfl dX10_speedOf_89 (by omega) (by omega) (fun x88_ e88 => ?_)
          have qpush : x88_.toInt = D 1 x2.toInt.toNat := by rw [e88, clx (i := x2) rfl (by omega)]; exact rwm 1 _ _ _ (cM (r := 1) (by decide) (by decide) hb87) (by rw [cnt_1]; omega) (fun h9 => absurd h9 (by decide))
          refine r_iload hC dX10_speedOf_90 6 rfl ?_
          refine r_iadd hC dX10_speedOf_92 (fun x89_ e89 => ?_)
          try have t89 : x89_.toInt = x88_.toInt + x4.toInt := by rw [e89]; exact ti_add (by omega) (by omega)
          refine r_iload hC dX10_speedOf_93 0 rfl ?_
          refine r_isub hC dX10_speedOf_95 (fun x90_ e90 => ?_)
          try have t90 : x90_.toInt = x89_.toInt - x63_.toInt := by rw [e90]; exact ti_sub (by omega) (by omega)
          refine r_istore hC (lv' := [(7, .int x90_), (6, .int x63_), (5, .int x5_), (0, .ref a0), (1, .int x1), (2, .int x2), (3, .int x3), (4, .int x4)]) dX10_speedOf_96 (by decide) rfl ?_
          refine r_iload hC dX10_speedOf_98 0 rfl ?_
          refine r_if_ge hC (tgt := 107) dX10_speedOf_100 (by decide) (fun c91 => ?_) (fun c91 => ?_)
          · refine r_iload hC dX10_speedOf_107 0 rfl ?_
            refine r_bipush hC (v := (10)) dX10_speedOf_109 (by decide) (by decide) (fun x92_ e92 t92 => ?_)
            refine r_idiv hC dX10_speedOf_111 (ne_0 (by omega)) (fun x93_ e93 => ?_)
            have td93 : x93_.toInt = x90_.toInt / 10 := by rw [e93, ti_div (by omega) (by omega), show x92_.toInt = 10 by omega]
            exact r_iret hC hQ hlk hr rfl (by decide) (by decide) dX10_speedOf_112 ⟨_, rfl, rfl, (by unfold Sp; first | (rw [Rs_q ⟨by omega, by omega, by omega⟩]; omega) | (rw [Rs_n (fun h9 => by have h8 := h9.1; have h7 := h9.2.1; have h6 := h9.2.2; omega)]; omega) | (have h5 : Rs D x1.toInt.toNat x3.toInt.toNat v w x2.toInt.toNat = 0 := by {unfold Rs; split <;> omega}; rw [h5]; omega))⟩
          · refine r_iconst hC (v := (0)) dX10_speedOf_103 (by decide) (by decide) (fun x94_ e94 t94 => ?_)
            refine r_goto hC (tgt := 112) dX10_speedOf_104 (by decide) ?_
            exact r_iret hC hQ hlk hr rfl (by decide) (by decide) dX10_speedOf_112 ⟨_, rfl, rfl, (by unfold Sp; first | (rw [Rs_q ⟨by omega, by omega, by omega⟩]; omega) | (rw [Rs_n (fun h9 => by have h8 := h9.1; have h7 := h9.2.1; have h6 := h9.2.2; omega)]; omega) | (have h5 : Rs D x1.toInt.toNat x3.toInt.toNat v w x2.toInt.toNat = 0 := by {unfold Rs; split <;> omega}; rw [h5]; omega))⟩
        · refine r_aload_n hC dX10_speedOf_59 2 rfl ?_
          refine r_getr hC 16 (ci := 10) rfl u10_in (by decide) mT_5_11 dX10_speedOf_60 ka0 rfl rfl hsr ?_
          refine r_iload hC dX10_speedOf_63 1 rfl ?_
          refine x_iaload hC ksr lsr (by decide) rfl rfl dX10_speedOf_65 (by omega) (by omega) (fun x95_ e95 => ?_)
          have qv : x95_.toInt = v := by rw [e95, clx (i := x5_) rfl (by omega), show x5_.toInt.toNat = 60 * x2.toInt.toNat + x3.toInt.toNat - 1 by omega]; exact hv (by omega)
          refine r_aload_n hC dX10_speedOf_66 2 rfl ?_
          refine r_getr hC 3 (ci := 10) rfl u10_in (by decide) mT_4_238 dX10_speedOf_67 ka0 rfl rfl hbm ?_
          refine r_getrN hC 19 (ci := 9) rfl u9_in (by decide) nF_19 dX10_speedOf_70 khm rfl rfl hB74 ?_
          refine r_iload_n hC dX10_speedOf_73 3 rfl ?_
          refine x_iaload hC hK74 hN74 (by omega) (kOb (by omega)) (kAb (by omega)) dX10_speedOf_74 (by omega) (by omega) (fun x96_ e96 => ?_)
          have qmo : x96_.toInt = D 9 x1.toInt.toNat := by rw [e96, clx (i := x1) rfl (by omega)]; exact rwm 9 _ _ _ (cM (r := 9) (by decide) (by decide) hB74) (by rw [cnt_9]; omega) (fun _ => by omega)
          refine r_icmp_lt hC (tgt := 81) dX10_speedOf_75 (by decide) (fun c97 => ?_) (fun c97 => ?_)
          · refine r_aload_n hC dX10_speedOf_81 2 rfl ?_
            refine r_getr hC 3 (ci := 10) rfl u10_in (by decide) mT_4_238 dX10_speedOf_82 ka0 rfl rfl hbm ?_
            obtain ⟨a98_, hb98, hk98, hn98⟩ := hs.row khm 11 70 5 (by decide) (by decide)
            refine r_getrN hC 11 (ci := 9) rfl u9_in (by decide) nF_11 dX10_speedOf_85 khm rfl rfl hb98 ?_
            refine r_iload_n hC dX10_speedOf_88 4 rfl ?_
            refine x_iaload hC hk98 hn98 (by decide) rfl rfl dX10_speedOf_89 (by omega) (by omega) (fun x99_ e99 => ?_)
            have qpush : x99_.toInt = D 1 x2.toInt.toNat := by rw [e99, clx (i := x2) rfl (by omega)]; exact rwm 1 _ _ _ (cM (r := 1) (by decide) (by decide) hb98) (by rw [cnt_1]; omega) (fun h9 => absurd h9 (by decide))
            refine r_iload hC dX10_speedOf_90 6 rfl ?_
            refine r_iadd hC dX10_speedOf_92 (fun x100_ e100 => ?_)
            try have t100 : x100_.toInt = x99_.toInt + x4.toInt := by rw [e100]; exact ti_add (by omega) (by omega)
            refine r_iload hC dX10_speedOf_93 0 rfl ?_
            refine r_isub hC dX10_speedOf_95 (fun x101_ e101 => ?_)
            try have t101 : x101_.toInt = x100_.toInt - x63_.toInt := by rw [e101]; exact ti_sub (by omega) (by omega)
            refine r_istore hC (lv' := [(7, .int x101_), (6, .int x63_), (5, .int x5_), (0, .ref a0), (1, .int x1), (2, .int x2), (3, .int x3), (4, .int x4)]) dX10_speedOf_96 (by decide) rfl ?_
            refine r_iload hC dX10_speedOf_98 0 rfl ?_
            refine r_if_ge hC (tgt := 107) dX10_speedOf_100 (by decide) (fun c102 => ?_) (fun c102 => ?_)
            · refine r_iload hC dX10_speedOf_107 0 rfl ?_
              refine r_bipush hC (v := (10)) dX10_speedOf_109 (by decide) (by decide) (fun x103_ e103 t103 => ?_)
              refine r_idiv hC dX10_speedOf_111 (ne_0 (by omega)) (fun x104_ e104 => ?_)
              have td104 : x104_.toInt = x101_.toInt / 10 := by rw [e104, ti_div (by omega) (by omega), show x103_.toInt = 10 by omega]
              exact r_iret hC hQ hlk hr rfl (by decide) (by decide) dX10_speedOf_112 ⟨_, rfl, rfl, (by unfold Sp; first | (rw [Rs_q ⟨by omega, by omega, by omega⟩]; omega) | (rw [Rs_n (fun h9 => by have h8 := h9.1; have h7 := h9.2.1; have h6 := h9.2.2; omega)]; omega) | (have h5 : Rs D x1.toInt.toNat x3.toInt.toNat v w x2.toInt.toNat = 0 := by {unfold Rs; split <;> omega}; rw [h5]; omega))⟩
            · refine r_iconst hC (v := (0)) dX10_speedOf_103 (by decide) (by decide) (fun x105_ e105 t105 => ?_)
              refine r_goto hC (tgt := 112) dX10_speedOf_104 (by decide) ?_
              exact r_iret hC hQ hlk hr rfl (by decide) (by decide) dX10_speedOf_112 ⟨_, rfl, rfl, (by unfold Sp; first | (rw [Rs_q ⟨by omega, by omega, by omega⟩]; omega) | (rw [Rs_n (fun h9 => by have h8 := h9.1; have h7 := h9.2.1; have h6 := h9.2.2; omega)]; omega) | (have h5 : Rs D x1.toInt.toNat x3.toInt.toNat v w x2.toInt.toNat = 0 := by {unfold Rs; split <;> omega}; rw [h5]; omega))⟩
          · refine r_iconst hC (v := (0)) dX10_speedOf_78 (by decide) (by decide) (fun x106_ e106 t106 => ?_)
            refine r_istore hC (lv' := [(6, .int x106_), (5, .int x5_), (0, .ref a0), (1, .int x1), (2, .int x2), (3, .int x3), (4, .int x4)]) dX10_speedOf_79 (by decide) rfl ?_
            refine r_aload_n hC dX10_speedOf_81 2 rfl ?_
            refine r_getr hC 3 (ci := 10) rfl u10_in (by decide) mT_4_238 dX10_speedOf_82 ka0 rfl rfl hbm ?_
            obtain ⟨a107_, hb107, hk107, hn107⟩ := hs.row khm 11 70 5 (by decide) (by decide)
            refine r_getrN hC 11 (ci := 9) rfl u9_in (by decide) nF_11 dX10_speedOf_85 khm rfl rfl hb107 ?_
            refine r_iload_n hC dX10_speedOf_88 4 rfl ?_
            refine x_iaload hC hk107 hn107 (by decide) rfl rfl dX10_speedOf_89 (by omega) (by omega) (fun x108_ e108 => ?_)
            have qpush : x108_.toInt = D 1 x2.toInt.toNat := by rw [e108, clx (i := x2) rfl (by omega)]; exact rwm 1 _ _ _ (cM (r := 1) (by decide) (by decide) hb107) (by rw [cnt_1]; omega) (fun h9 => absurd h9 (by decide))
            refine r_iload hC dX10_speedOf_90 6 rfl ?_
            refine r_iadd hC dX10_speedOf_92 (fun x109_ e109 => ?_)
            try have t109 : x109_.toInt = x108_.toInt + x4.toInt := by rw [e109]; exact ti_add (by omega) (by omega)
            refine r_iload hC dX10_speedOf_93 0 rfl ?_
            refine r_isub hC dX10_speedOf_95 (fun x110_ e110 => ?_)
            try have t110 : x110_.toInt = x109_.toInt - x106_.toInt := by rw [e110]; exact ti_sub (by omega) (by omega)
            refine r_istore hC (lv' := [(7, .int x110_), (6, .int x106_), (5, .int x5_), (0, .ref a0), (1, .int x1), (2, .int x2), (3, .int x3), (4, .int x4)]) dX10_speedOf_96 (by decide) rfl ?_
            refine r_iload hC dX10_speedOf_98 0 rfl ?_
            refine r_if_ge hC (tgt := 107) dX10_speedOf_100 (by decide) (fun c111 => ?_) (fun c111 => ?_)
            · refine r_iload hC dX10_speedOf_107 0 rfl ?_
              refine r_bipush hC (v := (10)) dX10_speedOf_109 (by decide) (by decide) (fun x112_ e112 t112 => ?_)
              refine r_idiv hC dX10_speedOf_111 (ne_0 (by omega)) (fun x113_ e113 => ?_)
              have td113 : x113_.toInt = x110_.toInt / 10 := by rw [e113, ti_div (by omega) (by omega), show x112_.toInt = 10 by omega]
              exact r_iret hC hQ hlk hr rfl (by decide) (by decide) dX10_speedOf_112 ⟨_, rfl, rfl, (by unfold Sp; first | (rw [Rs_q ⟨by omega, by omega, by omega⟩]; omega) | (rw [Rs_n (fun h9 => by have h8 := h9.1; have h7 := h9.2.1; have h6 := h9.2.2; omega)]; omega) | (have h5 : Rs D x1.toInt.toNat x3.toInt.toNat v w x2.toInt.toNat = 0 := by {unfold Rs; split <;> omega}; rw [h5]; omega))⟩
            · refine r_iconst hC (v := (0)) dX10_speedOf_103 (by decide) (by decide) (fun x114_ e114 t114 => ?_)
              refine r_goto hC (tgt := 112) dX10_speedOf_104 (by decide) ?_
              exact r_iret hC hQ hlk hr rfl (by decide) (by decide) dX10_speedOf_112 ⟨_, rfl, rfl, (by unfold Sp; first | (rw [Rs_q ⟨by omega, by omega, by omega⟩]; omega) | (rw [Rs_n (fun h9 => by have h8 := h9.1; have h7 := h9.2.1; have h6 := h9.2.2; omega)]; omega) | (have h5 : Rs D x1.toInt.toNat x3.toInt.toNat v w x2.toInt.toNat = 0 := by {unfold Rs; split <;> omega}; rw [h5]; omega))⟩

