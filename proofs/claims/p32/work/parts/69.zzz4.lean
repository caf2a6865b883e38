def Wq (D : DD) (s : Nat) (A L : Nat → Int) (n : Nat) : Int := if GV D s A n = -2 then 0 else Ps (SV D s A (GV D s A n).toNat) (D 0 5).toNat * L (GV D s A n).toNat / 100
section FOL
variable {D : DD} {s : Nat} {A L : Nat → Int} {sr ir wr tr n p : Nat} {I I1 : Nat → Nat → Int32}
theorem gs_or {v : Nat → Int} {e g : Int} : ∀ p, gs v e g p = e ∨ gs v e g p = g
  | 0 => Or.inr rfl
  | p + 1 => by
    by_cases h : 100 ≤ v p
    · exact Or.inl (gs_t h)
    · rw [gs_n h]; exact gs_or p
theorem Wq_0 : Wq D s A L 0 = 0 := by unfold Wq; rw [if_pos GV_0]
theorem Wq_t (h : GV D s A (n + 1) = n) : Wq D s A L (n + 1) = Ps (SV D s A n) (D 0 5).toNat * L n / 100 := by
  unfold Wq; rw [h, if_neg (by omega), Int.toNat_natCast]
theorem Wq_n (h : GV D s A (n + 1) ≠ n) : Wq D s A L (n + 1) = Wq D s A L n := by
  have h1 : GV D s A (n + 1) = GV D s A n := by
    rcases gs_or (v := SV D s A n) (e := n) (g := GV D s A n) (D 0 5).toNat with h2 | h2
    · exact absurd (GV_s.trans h2) h
    · exact GV_s.trans h2
  unfold Wq; rw [h1]
theorem CRi.eq (h : CRi D s A sr ir wr tr n p I) (e : ∀ b k, b = sr ∨ b = ir ∨ b = wr ∨ b = tr → I1 b k = I b k) : CRi D s A sr ir wr tr n p I1 := by
  refine ⟨fun d q hd hq => ?_, fun j hj => by rw [e tr j (Or.inr (Or.inr (Or.inr rfl)))]; exact h.2 j hj⟩
  rw [e sr _ (Or.inl rfl), e ir _ (Or.inr (Or.inl rfl)), e wr _ (Or.inr (Or.inr (Or.inl rfl)))]; exact h.1 d q hd hq
theorem CRi.tgs (h : CRi D s A sr ir wr tr n p I) {v : Int32} (e : I1 = up2 I tr n v) (h1 : sr ≠ tr) (h2 : ir ≠ tr) (h3 : wr ≠ tr) : CRi D s A sr ir wr tr n p I1 := by
  refine ⟨fun d q hd hq => ?_, fun j hj => by rw [e, up2_ne _ _ (Or.inr (by omega))]; exact h.2 j hj⟩
  rw [e, up2_ne _ _ (Or.inl h1), up2_ne _ _ (Or.inl h2), up2_ne _ _ (Or.inl h3)]; exact h.1 d q hd hq
theorem CRi_0 : CRi D s A sr ir wr tr 0 0 I := ⟨fun d q hd _ => by omega, fun j hj => by omega⟩
theorem SV_b (hJ : DJ D) (hA : ∀ d, 0 ≤ A d ∧ A d ≤ 300000) (d p : Nat) : 0 ≤ SV D s A d p ∧ SV D s A d p ≤ 30100 := (Cs_b hJ hA (d + 1) p).1
theorem Pv_b (hJ : DJ D) (hA : ∀ d, 0 ≤ A d ∧ A d ≤ 300000) (d : Nat) : ∀ p, 0 ≤ Ps (SV D s A d) p ∧ Ps (SV D s A d) p ≤ 30100 * p
  | 0 => by simp [Ps]
  | p + 1 => by have h := Pv_b hJ hA d p; have h2 := SV_b (s := s) hJ hA d p; simp only [Ps]; have : ((p + 1 : Nat) : Int) = p + 1 := by omega
                rw [this]; omega
end FOL
set_option maxHeartbeats 4000000 in
set_option maxRecDepth 100000 in
theorem f_X0_follow (g : GG) (l : Launch) (K len : Nat → Nat) (I : Nat → Nat → Int32) (J : Nat → Nat → Int64) (R : Nat → Nat → Option Nat) (hs : Sf K len I R) (a0 : Nat) (ka0 : K a0 = 1) (a1 : Nat) (ka1 : K a1 = 2) (a2 : Nat) (ka2 : K a2 = 5) (a3 : Nat) (ka3 : K a3 = 41) (na3 : len a3 = 60) (x4 : Int32) (sr : Nat) (hsr : R a0 0 = some sr) (ksr : K sr = 50) (lsr : len sr = 300) (ir : Nat) (hir : R a0 1 = some ir) (kir : K ir = 51) (lir : len ir = 300) (wr : Nat) (hwr : R a0 2 = some wr) (kwr : K wr = 52) (lwr : len wr = 300) (tr : Nat) (htr : R a0 3 = some tr) (ktr : K tr = 53) (ltr : len tr = 60) (dr : Nat) (hdr : R a0 4 = some dr) (kdr : K dr = 54) (ldr : len dr = 60) (L : Nat → Int) (hL : ∀ j : Nat, j < 60 → (I a3 j).toInt = L j ∧ 0 ≤ L j ∧ L j ≤ 999) (hLb : ∀ j, 0 ≤ L j ∧ L j ≤ 999) (D : DD) (hJ : DJ D) (h6 : D 0 6 ≤ 6) (s : Nat) (hsk : (s : Int) < D 0 7) (k7 : (I a2 1).toInt = D 7 s) (k8 : (I a2 2).toInt = D 8 s) (k9 : D 7 s = 2 ∨ D 7 s = 3 ∨ D 7 s = 4 → (I a2 3).toInt = D 9 s) (lk : Nat) (hlk2 : R a1 0 = some lk) (klk : K lk = 3) (hu : UU K R) (rwd : RW (CC a1 lk R) (cntN D) D I) (hd1 : (I lk 1).toInt = D 0 1) (hd5 : (I a1 1).toInt = D 0 5) (rr : Nat) (hrr : R a1 5 = some rr) (krr : K rr = 57) (lrr : len rr = 60) (hrn : ∀ j : Nat, j < 60 → (I rr j).toInt = D 5 j) : Ct g l yX0_follow cX0_follow 9 (Option.none : Option Jvm.ClassFile.FieldType) rmX0_follow [.ref a0, .ref a1, .ref a2, .ref a3, .int x4] (K, len, I, J, R) (pV1 (K, len, I, J, R) (fun I' => Sf K len I' R ∧ Fr K [(1, 5), (1, 6), (50, 999), (51, 999), (52, 999), (53, 999), (54, 999)] I I' ∧ (CRi D s (Ad D s L x4.toInt) sr ir wr tr 60 0 I') ∧ ((I' a0 5).toInt = GV D s (Ad D s L x4.toInt) 60) ∧ ((I' a0 6).toInt = Wq D s (Ad D s L x4.toInt) L 60) ∧ (∀ b k, b ≠ a0 → b ≠ sr → b ≠ ir → b ≠ wr → b ≠ tr → b ≠ dr → I' b k = I b k))) := by
  refine Ct_intro (by decide +kernel) (Nat.le_of_ble_eq_true rfl) (fun X hC hL hKK hNm hr hlk hQ => ?_)
  subst hL
  have hC : Cx g X cX0_follow "HillTap$Course" 9 rmX0_follow := hC
  show P g X 9 0 [(0, .ref a0), (1, .ref a1), (2, .ref a2), (3, .ref a3), (4, .int x4)] [] 0 0 (K, len, I, J, R)
  have hF : Fr K [(1, 5), (1, 6), (50, 999), (51, 999), (52, 999), (53, 999), (54, 999)] I I := Fr.refl
  have hcx := CC_x hs ka1 klk hu
  have hA0 : ∀ d, 0 ≤ (Ad D s L x4.toInt) d ∧ (Ad D s L x4.toInt) d ≤ 300000 := Ad_b hJ h6 hsk hLb
  have kne : ∀ {y z u t : Nat}, K y = u → K z = t → u ≠ t → y ≠ z := fun g1 g2 g3 e => g3 (by rw [← g1, ← g2, e])
  have na0 : ¬ (a0 = sr ∨ a0 = ir ∨ a0 = wr ∨ a0 = tr) := fun z => by rcases z with z | z | z | z; exact kne ka0 ksr (by decide) z; exact kne ka0 kir (by decide) z; exact kne ka0 kwr (by decide) z; exact kne ka0 ktr (by decide) z
  have nst : sr ≠ tr := kne ksr ktr (by decide)
  have nit : ir ≠ tr := kne kir ktr (by decide)
  have nwt : wr ≠ tr := kne kwr ktr (by decide)
  have b_x4 := ti_rng x4
  obtain ⟨P1, eP1⟩ : ∃ z : Int32, z = I a1 1 := ⟨_, rfl⟩
  have fP1 : P1.toInt = (I a1 1).toInt := by rw [eP1]
  have rP1 := hs.rng ka1 rfl eP1
  have oth0 : ∀ b k, b ≠ a0 → b ≠ sr → b ≠ ir → b ≠ wr → b ≠ tr → b ≠ dr → I b k = I b k := fun _ _ _ _ _ _ _ _ => rfl
  refine r_aload_n hC dX0_follow_0 0 rfl ?_
  refine r_aload_n hC dX0_follow_1 1 rfl ?_
  refine r_aload_n hC dX0_follow_2 2 rfl ?_
  refine r_aload_n hC dX0_follow_3 3 rfl ?_
  refine r_iload hC dX0_follow_4 4 rfl ?_
  refine r_callV hC (As := [.ref a1, .ref a2, .ref a3, .int x4]) (rest := []) (ci := 0) (f_X0_fillAdds g (xL X) K len I J R hs a0 ka0 a1 ka1 a2 ka2 a3 ka3 na3 x4 dr hdr kdr ldr L hL D hJ h6 s hsk k7 k8 k9 lk hlk2 klk hd1 rr hrr krr lrr hrn) mT_3_171 mT_1_8 mT_3_168 mT_3_170 mP_27 okX0_fillAdds ⟨by decide, by decide⟩ rfl (by show kO (K a0) = _; rw [ka0]; rfl) rfl rfl (Nat.le_of_ble_eq_true rfl) ⟨by decide, by decide⟩ dX0_follow_6 (aV1 (F := fun st M => P g X 9 9 [(0, .ref a0), (1, .ref a1), (2, .ref a2), (3, .ref a3), (4, .int x4)] st _ _ M) (M := (K, len, I, J, R)) fun I1 h1 => ?_)
  obtain ⟨hs1, hf1, k1_0, k1_1⟩ := h1
  show P g X 9 9 [(0, .ref a0), (1, .ref a1), (2, .ref a2), (3, .ref a3), (4, .int x4)] [] _ _ (K, len, I1, J, R)
  have hF1 : Fr K [(1, 5), (1, 6), (50, 999), (51, 999), (52, 999), (53, 999), (54, 999)] I I1 := hF.trans hf1 rfl rfl
  have oth1 : ∀ b k, b ≠ a0 → b ≠ sr → b ≠ ir → b ≠ wr → b ≠ tr → b ≠ dr → I1 b k = I b k := fun b k z1 z2 z3 z4 z5 z6 => (k1_1 b k z6).trans (oth0 b k z1 z2 z3 z4 z5 z6)
  refine r_aload_n hC dX0_follow_9 0 rfl ?_
  refine r_bipush hC (v := (-2)) dX0_follow_10 (by decide) (by decide) (fun x2_ e2 t2 => ?_)
  refine r_puti hC 5 (ci := 0) rfl u0_in tyX0_ok nmX0 (by decide) mT_2_35 rfl rfl rfl dX0_follow_12 ka0 rfl rfl (fun I3 eI3 => ?_)
  have hs3 := hs1.put0 eI3 ka0 rfl rfl rfl (by decide)
  have hF3 := hF1.put eI3 ka0 rfl
  have oth3 : ∀ b k, b ≠ a0 → b ≠ sr → b ≠ ir → b ≠ wr → b ≠ tr → b ≠ dr → I3 b k = I b k := fun b k z1 z2 z3 z4 z5 z6 => (up2_at (Or.inl z1) eI3).trans (oth1 b k z1 z2 z3 z4 z5 z6)
  have dv3 : ∀ j : Nat, j < 60 → (I3 dr j).toInt = (Ad D s L x4.toInt) j := fun j hj => by rw [up2_kk eI3 ka0 kdr (by decide)]; exact k1_0 j hj
  refine r_aload_n hC dX0_follow_15 0 rfl ?_
  refine r_iconst hC (v := (0)) dX0_follow_16 (by decide) (by decide) (fun x4_ e4 t4 => ?_)
  refine r_puti hC 6 (ci := 0) rfl u0_in tyX0_ok nmX0 (by decide) mT_2_37 rfl rfl rfl dX0_follow_17 ka0 rfl rfl (fun I5 eI5 => ?_)
  have hs5 := hs3.put0 eI5 ka0 rfl rfl rfl (by decide)
  have hF5 := hF3.put eI5 ka0 rfl
  have oth5 : ∀ b k, b ≠ a0 → b ≠ sr → b ≠ ir → b ≠ wr → b ≠ tr → b ≠ dr → I5 b k = I b k := fun b k z1 z2 z3 z4 z5 z6 => (up2_at (Or.inl z1) eI5).trans (oth3 b k z1 z2 z3 z4 z5 z6)
  have dv5 : ∀ j : Nat, j < 60 → (I5 dr j).toInt = (Ad D s L x4.toInt) j := fun j hj => by rw [up2_kk eI5 ka0 kdr (by decide)]; exact dv3 j hj
  refine r_iconst hC (v := (0)) dX0_follow_20 (by decide) (by decide) (fun x6_ e6 t6 => ?_)
  refine r_istore hC (lv' := [(5, .int x6_), (0, .ref a0), (1, .ref a1), (2, .ref a2), (3, .ref a3), (4, .int x4)]) dX0_follow_21 (by decide) rfl ?_
  have LP7 : ∀ (mu : Nat) (x7_5 : Int32) (I7 : Nat → Nat → Int32) (hs7 : Sf K len I7 R) (hF7 : Fr K [(1, 5), (1, 6), (50, 999), (51, 999), (52, 999), (53, 999), (54, 999)] I I7) (v7_0 : 0 ≤ x7_5.toInt) (v7_1 : x7_5.toInt ≤ 60) (v7_2 : CRi D s (Ad D s L x4.toInt) sr ir wr tr x7_5.toInt.toNat 0 I7) (v7_3 : (I7 a0 5).toInt = GV D s (Ad D s L x4.toInt) x7_5.toInt.toNat) (v7_4 : ∀ j : Nat, j < 60 → (I7 dr j).toInt = (Ad D s L x4.toInt) j) (v7_5 : (I7 a0 6).toInt = Wq D s (Ad D s L x4.toInt) L x7_5.toInt.toNat) (v7_6 : ∀ b k, b ≠ a0 → b ≠ sr → b ≠ ir → b ≠ wr → b ≠ tr → b ≠ dr → I7 b k = I b k), (60 - x7_5.toInt).toNat = mu → P g X 9 23 [(0, .ref a0), (1, .ref a1), (2, .ref a2), (3, .ref a3), (4, .int x4), (5, .int x7_5)] [] 0 0 (K, len, I7, J, R) := by
    intro mu; induction mu using Nat.strongRecOn with | ind mu ih => ?_
    intro x7_5 I7 hs7 hF7 v7_0 v7_1 v7_2 v7_3 v7_4 v7_5 v7_6 hmu
    have ih7 := ih
    clear ih
    have hmu7 := hmu
    clear hmu
    obtain ⟨Go7, eGo7⟩ : ∃ z : Int32, z = I7 a0 5 := ⟨_, rfl⟩
    have fGo7 : Go7.toInt = (I7 a0 5).toInt := by rw [eGo7]
    obtain ⟨Wo7, eWo7⟩ : ∃ z : Int32, z = I7 a0 6 := ⟨_, rfl⟩
    have fWo7 : Wo7.toInt = (I7 a0 6).toInt := by rw [eWo7]
    refine r_iload hC dX0_follow_23 5 rfl ?_
    refine r_bipush hC (v := (60)) dX0_follow_25 (by decide) (by decide) (fun x8_ e8 t8 => ?_)
    refine r_icmp_ge hC (tgt := 163) dX0_follow_27 (by decide) (fun c9 => ?_) (fun c9 => ?_)
    · exact r_vret hC hQ hlk hr (by decide) (by decide) dX0_follow_163 ⟨_, rfl, rfl, ⟨hs7, hF7, (by have h9 := v7_2; rw [show x7_5.toInt.toNat = 60 by omega] at h9; exact h9), (by have h9 := v7_3; rw [show x7_5.toInt.toNat = 60 by omega] at h9; exact h9), (by have h9 := v7_5; rw [show x7_5.toInt.toNat = 60 by omega] at h9; exact h9), (by exact v7_6)⟩⟩
    · refine r_aload_n hC dX0_follow_30 0 rfl ?_
      refine r_getr hC 3 (ci := 0) rfl u0_in (by decide) mT_2_32 dX0_follow_31 ka0 rfl rfl htr ?_
      refine r_iload hC dX0_follow_34 5 rfl ?_
      refine r_iconst hC (v := (0)) dX0_follow_36 (by decide) (by decide) (fun x10_ e10 t10 => ?_)
      refine x_iastore hC ktr ltr (by decide) rfl rfl dX0_follow_37 (by omega) (by omega) (fun I11 eI11 => ?_)
      have hs11 := hs7.put0 eI11 ktr (rng_arr (by decide) _) rfl (xF_arr (by decide) _) (by decide)
      have hF11 := hF7.put eI11 ktr (inS_arr rfl _)
      have eC11 := eI11
      rw [clx (i := x7_5) rfl (by omega)] at eC11
      have oth11 : ∀ b k, b ≠ a0 → b ≠ sr → b ≠ ir → b ≠ wr → b ≠ tr → b ≠ dr → I11 b k = I b k := fun b k z1 z2 z3 z4 z5 z6 => (up2_at (Or.inl z5) eI11).trans (v7_6 b k z1 z2 z3 z4 z5 z6)
      have cr11 := v7_2.tgs eC11 nst nit nwt
      have dv11 : ∀ j : Nat, j < 60 → (I11 dr j).toInt = (Ad D s L x4.toInt) j := fun j hj => by rw [up2_kk eI11 ktr kdr (by decide)]; exact v7_4 j hj
      have tg11 : (I11 tr x7_5.toInt.toNat).toInt = x10_.toInt := by rw [eC11, up2_self]
      refine r_aload_n hC dX0_follow_38 0 rfl ?_
      refine r_geti hC 5 (ci := 0) rfl u0_in (by decide) mT_2_35 dX0_follow_39 ka0 rfl rfl (fun x12_ e12 => ?_)
      have f12 : x12_.toInt = (I11 a0 5).toInt := by rw [e12]
      have w12 : x12_ = Go7 := by rw [e12]; exact (Eq.trans (up2_kk eI11 ktr ka0 (by decide)) eGo7.symm)
      have wt12 : x12_.toInt = Go7.toInt := by rw [w12]
      refine r_bipush hC (v := (-2)) dX0_follow_42 (by decide) (by decide) (fun x13_ e13 t13 => ?_)
      refine r_icmp_ne hC (tgt := 51) dX0_follow_44 (by decide) (fun c14 => ?_) (fun c14 => ?_)
      · refine r_iconst hC (v := (0)) dX0_follow_51 (by decide) (by decide) (fun x15_ e15 t15 => ?_)
        have hgn : ¬ (GV D s (Ad D s L x4.toInt) x7_5.toInt.toNat = -2) := by rw [← v7_3]; omega
        refine r_istore hC (lv' := [(6, .int x15_), (0, .ref a0), (1, .ref a1), (2, .ref a2), (3, .ref a3), (4, .int x4), (5, .int x7_5)]) dX0_follow_52 (by decide) rfl ?_
        refine r_iconst hC (v := (0)) dX0_follow_54 (by decide) (by decide) (fun x16_ e16 t16 => ?_)
        refine r_istore hC (lv' := [(7, .int x16_), (6, .int x15_), (0, .ref a0), (1, .ref a1), (2, .ref a2), (3, .ref a3), (4, .int x4), (5, .int x7_5)]) dX0_follow_55 (by decide) rfl ?_
        have LP17 : ∀ (mu : Nat) (x17_7 : Int32) (I17 : Nat → Nat → Int32) (hs17 : Sf K len I17 R) (hF17 : Fr K [(1, 5), (1, 6), (50, 999), (51, 999), (52, 999), (53, 999), (54, 999)] I I17) (v17_0 : 0 ≤ x17_7.toInt) (v17_1 : x17_7.toInt ≤ D 0 5) (v17_2 : CRi D s (Ad D s L x4.toInt) sr ir wr tr x7_5.toInt.toNat x17_7.toInt.toNat I17) (v17_3 : (I17 a0 5).toInt = gs (SV D s (Ad D s L x4.toInt) x7_5.toInt.toNat) ((x7_5.toInt.toNat : Nat) : Int) (GV D s (Ad D s L x4.toInt) x7_5.toInt.toNat) x17_7.toInt.toNat) (v17_4 : ∀ j : Nat, j < 60 → (I17 dr j).toInt = (Ad D s L x4.toInt) j) (v17_5 : (I17 a0 6).toInt = Wq D s (Ad D s L x4.toInt) L x7_5.toInt.toNat) (v17_6 : (I17 tr x7_5.toInt.toNat).toInt = Ps (SV D s (Ad D s L x4.toInt) x7_5.toInt.toNat) x17_7.toInt.toNat) (v17_7 : ∀ b k, b ≠ a0 → b ≠ sr → b ≠ ir → b ≠ wr → b ≠ tr → b ≠ dr → I17 b k = I b k), (5 - x17_7.toInt).toNat = mu → P g X 9 57 [(0, .ref a0), (1, .ref a1), (2, .ref a2), (3, .ref a3), (4, .int x4), (5, .int x7_5), (6, .int x15_), (7, .int x17_7)] [] 0 0 (K, len, I17, J, R) := by
          intro mu; induction mu using Nat.strongRecOn with | ind mu ih => ?_
          intro x17_7 I17 hs17 hF17 v17_0 v17_1 v17_2 v17_3 v17_4 v17_5 v17_6 v17_7 hmu
          have ih17 := ih
          clear ih
          have hmu17 := hmu
          clear hmu
          obtain ⟨Gi17, eGi17⟩ : ∃ z : Int32, z = I17 a0 5 := ⟨_, rfl⟩
          have fGi17 : Gi17.toInt = (I17 a0 5).toInt := by rw [eGi17]
          obtain ⟨Wi17, eWi17⟩ : ∃ z : Int32, z = I17 a0 6 := ⟨_, rfl⟩
          have fWi17 : Wi17.toInt = (I17 a0 6).toInt := by rw [eWi17]
          refine r_iload hC dX0_follow_57 7 rfl ?_
          refine r_aload_n hC dX0_follow_59 1 rfl ?_
          refine r_geti hC 1 (ci := 1) rfl u1_in (by decide) mT_1_185 dX0_follow_60 ka1 rfl rfl (fun x18_ e18 => ?_)
          have r18 := hs17.rng ka1 rfl e18
          have f18 : x18_.toInt = (I17 a1 1).toInt := by rw [e18]
          have w18 : x18_ = P1 := by rw [e18]; exact (Eq.trans (hF17.get ka1 rfl) eP1.symm)
          have wt18 : x18_.toInt = P1.toInt := by rw [w18]
          refine r_icmp_ge hC (tgt := 129) dX0_follow_63 (by decide) (fun c19 => ?_) (fun c19 => ?_)
          · refine r_aload_n hC dX0_follow_129 0 rfl ?_
            refine r_geti hC 5 (ci := 0) rfl u0_in (by decide) mT_2_35 dX0_follow_130 ka0 rfl rfl (fun x20_ e20 => ?_)
            have f20 : x20_.toInt = (I17 a0 5).toInt := by rw [e20]
            have w20 : x20_ = Gi17 := by rw [e20]; exact eGi17.symm
            have wt20 : x20_.toInt = Gi17.toInt := by rw [w20]
            refine r_iload hC dX0_follow_133 5 rfl ?_
            refine r_icmp_ne hC (tgt := 157) dX0_follow_135 (by decide) (fun c21 => ?_) (fun c21 => ?_)
            · have hgd : GV D s (Ad D s L x4.toInt) (x7_5.toInt.toNat + 1) ≠ ((x7_5.toInt.toNat : Nat) : Int) := by rw [GV_s, show (D 0 5).toNat = x17_7.toInt.toNat by omega, ← v17_3]; omega
              have tgd : (I17 tr x7_5.toInt.toNat).toInt = Ps (SV D s (Ad D s L x4.toInt) x7_5.toInt.toNat) (D 0 5).toNat := by rw [show (D 0 5).toNat = x17_7.toInt.toNat by omega]; exact v17_6
              obtain ⟨x22_, e22⟩ : ∃ z : Int32, z = x7_5 + Int32.ofInt (1) := ⟨_, rfl⟩
              refine r_iinc hC (j := 5) (v := x22_) (lv' := [(5, .int x22_), (0, .ref a0), (1, .ref a1), (2, .ref a2), (3, .ref a3), (4, .int x4), (6, .int x15_), (7, .int x17_7)]) dX0_follow_157 rfl (by rw [e22]) (by decide) rfl ?_
              try have t22 : x22_.toInt = x7_5.toInt + (1) := by rw [e22]; exact (ti_add (b := Int32.ofInt (1)) (by show _ ≤ _ + (1 : Int); omega) (by show _ + (1 : Int) ≤ _; omega))
              refine r_goto hC (tgt := 23) dX0_follow_160 (by decide) ?_
              have hv5 : I17 a0 5 = x20_ := e20.symm
              have hv5t : (I17 a0 5).toInt = x20_.toInt := congrArg Int32.toInt hv5
              have hv6 : I17 a0 6 = Wi17 := eWi17.symm
              have hv6t : (I17 a0 6).toInt = Wi17.toInt := congrArg Int32.toInt hv6
              refine r_sub [1, 2, 3, 4, 5, 0] rfl ?_
              exact ih7 ((60 - x22_.toInt).toNat) (by omega) x22_ I17 hs17 hF17 (by omega) (by omega) (by first | (rw [show x22_.toInt.toNat = 0 by omega]; exact CRi_0) | (rw [show x22_.toInt.toNat = x7_5.toInt.toNat + 1 by omega]; exact v17_2.day (by omega) tgd)) (by first | (rw [show x22_.toInt.toNat = 0 by omega, GV_0]; omega) | (rw [show x22_.toInt.toNat = x7_5.toInt.toNat + 1 by omega, GV_s, show (D 0 5).toNat = x17_7.toInt.toNat by omega]; have h9 := v17_3; omega)) (by exact v17_4) (by first | (rw [show x22_.toInt.toNat = 0 by omega, Wq_0]; omega) | (rw [show x22_.toInt.toNat = x7_5.toInt.toNat + 1 by omega, Wq_t hgd, ← wvf]; omega) | (rw [show x22_.toInt.toNat = x7_5.toInt.toNat + 1 by omega, Wq_n hgd]; have h9 := v17_5; omega)) (by exact v17_7) rfl
            · have hgd : GV D s (Ad D s L x4.toInt) (x7_5.toInt.toNat + 1) = ((x7_5.toInt.toNat : Nat) : Int) := by rw [GV_s, show (D 0 5).toNat = x17_7.toInt.toNat by omega, ← v17_3]; omega
              refine r_aload_n hC dX0_follow_138 0 rfl ?_
              refine r_aload_n hC dX0_follow_139 0 rfl ?_
              refine r_getr hC 3 (ci := 0) rfl u0_in (by decide) mT_2_32 dX0_follow_140 ka0 rfl rfl htr ?_
              refine r_iload hC dX0_follow_143 5 rfl ?_
              refine x_iaload hC ktr ltr (by decide) rfl rfl dX0_follow_145 (by omega) (by omega) (fun x23_ e23 => ?_)
              have qt : x23_.toInt = Ps (SV D s (Ad D s L x4.toInt) x7_5.toInt.toNat) x17_7.toInt.toNat := by rw [e23, clx (i := x7_5) rfl (by omega)]; exact v17_6
              have pvb := Pv_b (s := s) hJ hA0 x7_5.toInt.toNat x17_7.toInt.toNat
              refine r_aload_n hC dX0_follow_146 3 rfl ?_
              refine r_iload hC dX0_follow_147 5 rfl ?_
              refine x_iaload hC ka3 na3 (by decide) rfl rfl dX0_follow_149 (by omega) (by omega) (fun x24_ e24 => ?_)
              have ql24 := hL x7_5.toInt.toNat (by omega)
              have qv24 : x24_.toInt = L x7_5.toInt.toNat := by rw [e24, hF17.get ka3 rfl, clx (i := x7_5) rfl (by omega)]; exact ql24.1
              refine r_imul hC dX0_follow_150 (fun x25_ e25 => ?_)
              have mb25 := mul_b (a := x23_.toInt) (b := x24_.toInt) (A := 150500) (B := 999) (C := 150349500) (by decide) (by omega) (by omega) (by omega) (by omega)
              have tm25 : x25_.toInt = x23_.toInt * x24_.toInt := by rw [e25]; exact ti_mul rfl rfl (by omega) (by omega)
              refine r_bipush hC (v := (100)) dX0_follow_151 (by decide) (by decide) (fun x26_ e26 t26 => ?_)
              refine r_idiv hC dX0_follow_153 (ne_0 (by omega)) (fun x27_ e27 => ?_)
              have td27 : x27_.toInt = x25_.toInt / 100 := by rw [e27, ti_div (by omega) (by omega), show x26_.toInt = 100 by omega]
              have wvf : x27_.toInt = Ps (SV D s (Ad D s L x4.toInt) x7_5.toInt.toNat) (D 0 5).toNat * L x7_5.toInt.toNat / 100 := by rw [show (D 0 5).toNat = x17_7.toInt.toNat by omega, show Ps (SV D s (Ad D s L x4.toInt) x7_5.toInt.toNat) x17_7.toInt.toNat = x23_.toInt by omega, show L x7_5.toInt.toNat = x24_.toInt by omega]; omega
              refine r_puti hC 6 (ci := 0) rfl u0_in tyX0_ok nmX0 (by decide) mT_2_37 rfl rfl rfl dX0_follow_154 ka0 rfl rfl (fun I28 eI28 => ?_)
              have hs28 := hs17.put0 eI28 ka0 rfl rfl rfl (by decide)
              have hF28 := hF17.put eI28 ka0 rfl
              have oth28 : ∀ b k, b ≠ a0 → b ≠ sr → b ≠ ir → b ≠ wr → b ≠ tr → b ≠ dr → I28 b k = I b k := fun b k z1 z2 z3 z4 z5 z6 => (up2_at (Or.inl z1) eI28).trans (v17_7 b k z1 z2 z3 z4 z5 z6)
              have cr28 := v17_2.eq (I1 := I28) (fun b k z => up2_at (Or.inl (fun y => by rw [y] at z; exact na0 z)) eI28)
              have dv28 : ∀ j : Nat, j < 60 → (I28 dr j).toInt = (Ad D s L x4.toInt) j := fun j hj => by rw [up2_kk eI28 ka0 kdr (by decide)]; exact v17_4 j hj
              have tg28 : (I28 tr x7_5.toInt.toNat).toInt = Ps (SV D s (Ad D s L x4.toInt) x7_5.toInt.toNat) x17_7.toInt.toNat := by rw [up2_kk eI28 ka0 ktr (by decide)]; exact v17_6
              have tgd : (I28 tr x7_5.toInt.toNat).toInt = Ps (SV D s (Ad D s L x4.toInt) x7_5.toInt.toNat) (D 0 5).toNat := by rw [show (D 0 5).toNat = x17_7.toInt.toNat by omega]; exact tg28
              obtain ⟨x29_, e29⟩ : ∃ z : Int32, z = x7_5 + Int32.ofInt (1) := ⟨_, rfl⟩
              refine r_iinc hC (j := 5) (v := x29_) (lv' := [(5, .int x29_), (0, .ref a0), (1, .ref a1), (2, .ref a2), (3, .ref a3), (4, .int x4), (6, .int x15_), (7, .int x17_7)]) dX0_follow_157 rfl (by rw [e29]) (by decide) rfl ?_
              try have t29 : x29_.toInt = x7_5.toInt + (1) := by rw [e29]; exact (ti_add (b := Int32.ofInt (1)) (by show _ ≤ _ + (1 : Int); omega) (by show _ + (1 : Int) ≤ _; omega))
              refine r_goto hC (tgt := 23) dX0_follow_160 (by decide) ?_
              have hv5 : I28 a0 5 = x20_ := (Eq.trans (up2_at (Or.inr (by decide)) eI28) e20.symm)
              have hv5t : (I28 a0 5).toInt = x20_.toInt := congrArg Int32.toInt hv5
              have hv6 : I28 a0 6 = x27_ := (by rw [eI28]; exact up2_self _ _ _ _)
              have hv6t : (I28 a0 6).toInt = x27_.toInt := congrArg Int32.toInt hv6
              refine r_sub [1, 2, 3, 4, 5, 0] rfl ?_
              exact ih7 ((60 - x29_.toInt).toNat) (by omega) x29_ I28 hs28 hF28 (by omega) (by omega) (by first | (rw [show x29_.toInt.toNat = 0 by omega]; exact CRi_0) | (rw [show x29_.toInt.toNat = x7_5.toInt.toNat + 1 by omega]; exact cr28.day (by omega) tgd)) (by first | (rw [show x29_.toInt.toNat = 0 by omega, GV_0]; omega) | (rw [show x29_.toInt.toNat = x7_5.toInt.toNat + 1 by omega, GV_s, show (D 0 5).toNat = x17_7.toInt.toNat by omega]; have h9 := v17_3; omega)) (by exact dv28) (by first | (rw [show x29_.toInt.toNat = 0 by omega, Wq_0]; omega) | (rw [show x29_.toInt.toNat = x7_5.toInt.toNat + 1 by omega, Wq_t hgd, ← wvf]; omega) | (rw [show x29_.toInt.toNat = x7_5.toInt.toNat + 1 by omega, Wq_n hgd]; have h9 := v17_5; omega)) (by exact oth28) rfl
          · have cb := Cs_b (s := s) hJ hA0 x7_5.toInt.toNat x17_7.toInt.toNat
            have hvp : 0 < x7_5.toInt → (I17 sr (60 * x17_7.toInt.toNat + x7_5.toInt.toNat - 1)).toInt = (Cs D s (Ad D s L x4.toInt) x7_5.toInt.toNat).1 x17_7.toInt.toNat := fun z => by have h9 := (v17_2.1 (x7_5.toInt.toNat - 1) x17_7.toInt.toNat (Or.inl (by omega)) (by omega)).1; rw [show 60 * x17_7.toInt.toNat + (x7_5.toInt.toNat - 1) = 60 * x17_7.toInt.toNat + x7_5.toInt.toNat - 1 by omega] at h9; rw [h9]; show (Cs D s (Ad D s L x4.toInt) (x7_5.toInt.toNat - 1 + 1)).1 x17_7.toInt.toNat = _; rw [show x7_5.toInt.toNat - 1 + 1 = x7_5.toInt.toNat by omega]
            have hnp : 0 < x7_5.toInt → (I17 ir (60 * x17_7.toInt.toNat + x7_5.toInt.toNat - 1)).toInt = (Cs D s (Ad D s L x4.toInt) x7_5.toInt.toNat).2.1 x17_7.toInt.toNat := fun z => by have h9 := (v17_2.1 (x7_5.toInt.toNat - 1) x17_7.toInt.toNat (Or.inl (by omega)) (by omega)).2.1; rw [show 60 * x17_7.toInt.toNat + (x7_5.toInt.toNat - 1) = 60 * x17_7.toInt.toNat + x7_5.toInt.toNat - 1 by omega] at h9; rw [h9]; show (Cs D s (Ad D s L x4.toInt) (x7_5.toInt.toNat - 1 + 1)).2.1 x17_7.toInt.toNat = _; rw [show x7_5.toInt.toNat - 1 + 1 = x7_5.toInt.toNat by omega]
            have hwp : 0 < x7_5.toInt → (I17 wr (60 * x17_7.toInt.toNat + x7_5.toInt.toNat - 1)).toInt = (Cs D s (Ad D s L x4.toInt) x7_5.toInt.toNat).2.2.1 x17_7.toInt.toNat := fun z => by have h9 := (v17_2.1 (x7_5.toInt.toNat - 1) x17_7.toInt.toNat (Or.inl (by omega)) (by omega)).2.2; rw [show 60 * x17_7.toInt.toNat + (x7_5.toInt.toNat - 1) = 60 * x17_7.toInt.toNat + x7_5.toInt.toNat - 1 by omega] at h9; rw [h9]; show (Cs D s (Ad D s L x4.toInt) (x7_5.toInt.toNat - 1 + 1)).2.2.1 x17_7.toInt.toNat = _; rw [show x7_5.toInt.toNat - 1 + 1 = x7_5.toInt.toNat by omega]
            have hz0 : x7_5.toInt = 0 → (Cs D s (Ad D s L x4.toInt) x7_5.toInt.toNat).1 x17_7.toInt.toNat = 0 ∧ (Cs D s (Ad D s L x4.toInt) x7_5.toInt.toNat).2.1 x17_7.toInt.toNat = 0 ∧ (Cs D s (Ad D s L x4.toInt) x7_5.toInt.toNat).2.2.1 x17_7.toInt.toNat = 0 := fun z => by rw [show x7_5.toInt.toNat = 0 by omega]; exact ⟨rfl, rfl, rfl⟩
            refine r_iload hC dX0_follow_66 6 rfl ?_
            refine r_if_eq hC (tgt := 84) dX0_follow_68 (by decide) (fun c30 => ?_) (fun c30 => ?_)
            rotate_left
            · exfalso; omega
            refine r_iconst hC (v := (0)) dX0_follow_84 (by decide) (by decide) (fun x31_ e31 t31 => ?_)
            have sv : x31_.toInt = SV D s (Ad D s L x4.toInt) x7_5.toInt.toNat x17_7.toInt.toNat := by rw [SV_eq, if_neg hgn]; omega
            have svb := SV_b (s := s) hJ hA0 x7_5.toInt.toNat x17_7.toInt.toNat
            refine r_istore hC (lv' := [(8, .int x31_), (0, .ref a0), (1, .ref a1), (2, .ref a2), (3, .ref a3), (4, .int x4), (5, .int x7_5), (6, .int x15_), (7, .int x17_7)]) dX0_follow_85 (by decide) rfl ?_
            refine r_aload_n hC dX0_follow_87 1 rfl ?_
            refine r_iload hC dX0_follow_88 0 rfl ?_
            refine r_aload_n hC dX0_follow_90 3 rfl ?_
            refine r_iload hC dX0_follow_91 8 rfl ?_
            refine r_iload hC dX0_follow_93 6 rfl ?_
            refine r_callV hC (As := [.int x31_, .ref a2, .int x17_7, .int x7_5]) (rest := []) (ci := 0) (f_X0_creepBy g (xL X) K len I17 J R hs17 a0 ka0 x31_ a2 ka2 x17_7 x7_5 sr hsr ksr lsr ir hir kir lir wr hwr kwr lwr D s (by rw [hF17.get ka2 rfl]; exact k7) (fun z => by rw [hF17.get ka2 rfl]; exact k9 z) ((Cs D s (Ad D s L x4.toInt) x7_5.toInt.toNat).2.1 x17_7.toInt.toNat) ((Cs D s (Ad D s L x4.toInt) x7_5.toInt.toNat).2.2.1 x17_7.toInt.toNat) ⟨by omega, ⟨cb.2.1.1, by omega⟩, cb.2.2.1, by omega⟩ (fun z => (hz0 z).2) hnp hwp (by omega) (by omega) (by omega) (by omega)) mT_3_196 mT_1_8 mT_3_193 mT_3_195 mP_32 okX0_creepBy ⟨by decide, by decide⟩ rfl (by show kO (K a0) = _; rw [ka0]; rfl) rfl rfl (Nat.le_of_ble_eq_true rfl) ⟨by decide, by decide⟩ dX0_follow_95 (aV1 (F := fun st M => P g X 9 98 [(8, .int x31_), (0, .ref a0), (1, .ref a1), (2, .ref a2), (3, .ref a3), (4, .int x4), (5, .int x7_5), (6, .int x15_), (7, .int x17_7)] st _ _ M) (M := (K, len, I17, J, R)) fun I32 h32 => ?_)
            obtain ⟨hs32, hf32, k32_0, k32_1, k32_2, k32_3⟩ := h32
            show P g X 9 98 [(8, .int x31_), (0, .ref a0), (1, .ref a1), (2, .ref a2), (3, .ref a3), (4, .int x4), (5, .int x7_5), (6, .int x15_), (7, .int x17_7)] [] _ _ (K, len, I32, J, R)
            have hF32 : Fr K [(1, 5), (1, 6), (50, 999), (51, 999), (52, 999), (53, 999), (54, 999)] I I32 := hF17.trans hf32 rfl rfl
            have oth32 : ∀ b k, b ≠ a0 → b ≠ sr → b ≠ ir → b ≠ wr → b ≠ tr → b ≠ dr → I32 b k = I b k := fun b k z1 z2 z3 z4 z5 z6 => (k32_3 b k (fun y => by rcases y.2 with y | y | y; exact z2 y; exact z3 y; exact z4 y)).trans (v17_7 b k z1 z2 z3 z4 z5 z6)
            have dv32 : ∀ j : Nat, j < 60 → (I32 dr j).toInt = (Ad D s L x4.toInt) j := fun j hj => by rw [hf32.get kdr rfl]; exact v17_4 j hj
            have tg32 : (I32 tr x7_5.toInt.toNat).toInt = Ps (SV D s (Ad D s L x4.toInt) x7_5.toInt.toNat) x17_7.toInt.toNat := by rw [hf32.get ktr rfl]; exact v17_6
            have cr32 := v17_2.peg (I1 := I32) (p := x17_7.toInt.toNat) (by omega) (k32_0.trans sv) (by rw [k32_1, NV_eq, sv]) (by rw [k32_2, WV_eq, NV_eq, sv]) (fun b k hb hk => k32_3 b k (fun z => hk z.1)) (fun j hj => hf32.get ktr rfl)
            refine r_aload_n hC dX0_follow_98 1 rfl ?_
            refine r_getr hC 3 (ci := 0) rfl u0_in (by decide) mT_2_32 dX0_follow_99 ka0 rfl rfl htr ?_
            refine r_iload hC dX0_follow_102 6 rfl ?_
            refine r_dup2 hC dX0_follow_104 rfl rfl ?_
            refine x_iaload hC ktr ltr (by decide) rfl rfl dX0_follow_105 (by omega) (by omega) (fun x33_ e33 => ?_)
            have qt : x33_.toInt = Ps (SV D s (Ad D s L x4.toInt) x7_5.toInt.toNat) x17_7.toInt.toNat := by rw [e33, clx (i := x7_5) rfl (by omega)]; exact tg32
            have pvb := Pv_b (s := s) hJ hA0 x7_5.toInt.toNat x17_7.toInt.toNat
            refine r_iload hC dX0_follow_106 0 rfl ?_
            refine r_iadd hC dX0_follow_108 (fun x34_ e34 => ?_)
            try have t34 : x34_.toInt = x33_.toInt + x31_.toInt := by rw [e34]; exact ti_add (by omega) (by omega)
            refine x_iastore hC ktr ltr (by decide) rfl rfl dX0_follow_109 (by omega) (by omega) (fun I35 eI35 => ?_)
            have hs35 := hs32.put0 eI35 ktr (rng_arr (by decide) _) rfl (xF_arr (by decide) _) (by decide)
            have hF35 := hF32.put eI35 ktr (inS_arr rfl _)
            have eC35 := eI35
            rw [clx (i := x7_5) rfl (by omega)] at eC35
            have oth35 : ∀ b k, b ≠ a0 → b ≠ sr → b ≠ ir → b ≠ wr → b ≠ tr → b ≠ dr → I35 b k = I b k := fun b k z1 z2 z3 z4 z5 z6 => (up2_at (Or.inl z5) eI35).trans (oth32 b k z1 z2 z3 z4 z5 z6)
            have cr35 := cr32.tgs eC35 nst nit nwt
            have dv35 : ∀ j : Nat, j < 60 → (I35 dr j).toInt = (Ad D s L x4.toInt) j := fun j hj => by rw [up2_kk eI35 ktr kdr (by decide)]; exact dv32 j hj
            have tg35 : (I35 tr x7_5.toInt.toNat).toInt = x34_.toInt := by rw [eC35, up2_self]
            refine r_iload hC dX0_follow_110 0 rfl ?_
            refine r_bipush hC (v := (100)) dX0_follow_112 (by decide) (by decide) (fun x36_ e36 t36 => ?_)
            refine r_icmp_lt hC (tgt := 123) dX0_follow_114 (by decide) (fun c37 => ?_) (fun c37 => ?_)
            rotate_left
            · exfalso; omega
            obtain ⟨x38_, e38⟩ : ∃ z : Int32, z = x17_7 + Int32.ofInt (1) := ⟨_, rfl⟩
            refine r_iinc hC (j := 8) (v := x38_) (lv' := [(7, .int x38_), (8, .int x31_), (0, .ref a0), (1, .ref a1), (2, .ref a2), (3, .ref a3), (4, .int x4), (5, .int x7_5), (6, .int x15_)]) dX0_follow_123 rfl (by rw [e38]) (by decide) rfl ?_
            try have t38 : x38_.toInt = x17_7.toInt + (1) := by rw [e38]; exact (ti_add (b := Int32.ofInt (1)) (by show _ ≤ _ + (1 : Int); omega) (by show _ + (1 : Int) ≤ _; omega))
            refine r_goto hC (tgt := 57) dX0_follow_126 (by decide) ?_
            have hv5 : I35 a0 5 = Gi17 := (Eq.trans (up2_kk eI35 ktr ka0 (by decide)) (Eq.trans (hf32.get ka0 rfl) eGi17.symm))
            have hv5t : (I35 a0 5).toInt = Gi17.toInt := congrArg Int32.toInt hv5
            have hv6 : I35 a0 6 = Wi17 := (Eq.trans (up2_kk eI35 ktr ka0 (by decide)) (Eq.trans (hf32.get ka0 rfl) eWi17.symm))
            have hv6t : (I35 a0 6).toInt = Wi17.toInt := congrArg Int32.toInt hv6
            refine r_sub [2, 3, 4, 5, 6, 7, 8, 0] rfl ?_
            exact ih17 ((5 - x38_.toInt).toNat) (by omega) x38_ I35 hs35 hF35 (by omega) (by omega) (by first | (rw [show x38_.toInt.toNat = 0 by omega]; exact cr35) | (rw [show x38_.toInt.toNat = x17_7.toInt.toNat + 1 by omega]; exact cr35)) (by first | (rw [show x38_.toInt.toNat = 0 by omega]; show _ = GV D s (Ad D s L x4.toInt) _; omega) | (rw [show x38_.toInt.toNat = x17_7.toInt.toNat + 1 by omega, gs_t (by rw [← sv]; omega)]; omega) | (rw [show x38_.toInt.toNat = x17_7.toInt.toNat + 1 by omega, gs_n (by rw [← sv]; omega)]; omega)) (by exact dv35) (by omega) (by first | (rw [show x38_.toInt.toNat = 0 by omega, tg35]; show _ = (0 : Int); omega) | (rw [show x38_.toInt.toNat = x17_7.toInt.toNat + 1 by omega, tg35]; show _ = Ps _ _ + SV _ _ _ _ _; omega)) (by exact oth35) rfl
        have hv5 : I11 a0 5 = x12_ := e12.symm
        have hv5t : (I11 a0 5).toInt = x12_.toInt := congrArg Int32.toInt hv5
        have hv6 : I11 a0 6 = Wo7 := (Eq.trans (up2_kk eI11 ktr ka0 (by decide)) eWo7.symm)
        have hv6t : (I11 a0 6).toInt = Wo7.toInt := congrArg Int32.toInt hv6
        refine r_sub [2, 3, 4, 5, 6, 7, 1, 0] rfl ?_
        exact LP17 _ x16_ I11 hs11 hF11 (by omega) (by omega) (by first | (rw [show x16_.toInt.toNat = 0 by omega]; exact cr11) | (rw [show x16_.toInt.toNat = x17_7.toInt.toNat + 1 by omega]; exact cr11)) (by first | (rw [show x16_.toInt.toNat = 0 by omega]; show _ = GV D s (Ad D s L x4.toInt) _; omega) | (rw [show x16_.toInt.toNat = x17_7.toInt.toNat + 1 by omega, gs_t (by rw [← sv]; omega)]; omega) | (rw [show x16_.toInt.toNat = x17_7.toInt.toNat + 1 by omega, gs_n (by rw [← sv]; omega)]; omega)) (by exact dv11) (by omega) (by first | (rw [show x16_.toInt.toNat = 0 by omega, tg11]; show _ = (0 : Int); omega) | (rw [show x16_.toInt.toNat = x17_7.toInt.toNat + 1 by omega, tg11]; show _ = Ps _ _ + SV _ _ _ _ _; omega)) (by exact oth11) rfl
      · refine r_iconst hC (v := (1)) dX0_follow_47 (by decide) (by decide) (fun x39_ e39 t39 => ?_)
        refine r_goto hC (tgt := 52) dX0_follow_48 (by decide) ?_
        have hgn : GV D s (Ad D s L x4.toInt) x7_5.toInt.toNat = -2 := by rw [← v7_3]; omega
        refine r_istore hC (lv' := [(6, .int x39_), (0, .ref a0), (1, .ref a1), (2, .ref a2), (3, .ref a3), (4, .int x4), (5, .int x7_5)]) dX0_follow_52 (by decide) rfl ?_
        refine r_iconst hC (v := (0)) dX0_follow_54 (by decide) (by decide) (fun x40_ e40 t40 => ?_)
        refine r_istore hC (lv' := [(7, .int x40_), (6, .int x39_), (0, .ref a0), (1, .ref a1), (2, .ref a2), (3, .ref a3), (4, .int x4), (5, .int x7_5)]) dX0_follow_55 (by decide) rfl ?_
        have LP41 : ∀ (mu : Nat) (x41_7 : Int32) (I41 : Nat → Nat → Int32) (hs41 : Sf K len I41 R) (hF41 : Fr K [(1, 5), (1, 6), (50, 999), (51, 999), (52, 999), (53, 999), (54, 999)] I I41) (v41_0 : 0 ≤ x41_7.toInt) (v41_1 : x41_7.toInt ≤ D 0 5) (v41_2 : CRi D s (Ad D s L x4.toInt) sr ir wr tr x7_5.toInt.toNat x41_7.toInt.toNat I41) (v41_3 : (I41 a0 5).toInt = gs (SV D s (Ad D s L x4.toInt) x7_5.toInt.toNat) ((x7_5.toInt.toNat : Nat) : Int) (GV D s (Ad D s L x4.toInt) x7_5.toInt.toNat) x41_7.toInt.toNat) (v41_4 : ∀ j : Nat, j < 60 → (I41 dr j).toInt = (Ad D s L x4.toInt) j) (v41_5 : (I41 a0 6).toInt = Wq D s (Ad D s L x4.toInt) L x7_5.toInt.toNat) (v41_6 : (I41 tr x7_5.toInt.toNat).toInt = Ps (SV D s (Ad D s L x4.toInt) x7_5.toInt.toNat) x41_7.toInt.toNat) (v41_7 : ∀ b k, b ≠ a0 → b ≠ sr → b ≠ ir → b ≠ wr → b ≠ tr → b ≠ dr → I41 b k = I b k), (5 - x41_7.toInt).toNat = mu → P g X 9 57 [(0, .ref a0), (1, .ref a1), (2, .ref a2), (3, .ref a3), (4, .int x4), (5, .int x7_5), (6, .int x39_), (7, .int x41_7)] [] 0 0 (K, len, I41, J, R) := by
          intro mu; induction mu using Nat.strongRecOn with | ind mu ih => ?_
          intro x41_7 I41 hs41 hF41 v41_0 v41_1 v41_2 v41_3 v41_4 v41_5 v41_6 v41_7 hmu
          have ih41 := ih
          clear ih
          have hmu41 := hmu
          clear hmu
          obtain ⟨Gi41, eGi41⟩ : ∃ z : Int32, z = I41 a0 5 := ⟨_, rfl⟩
          have fGi41 : Gi41.toInt = (I41 a0 5).toInt := by rw [eGi41]
          obtain ⟨Wi41, eWi41⟩ : ∃ z : Int32, z = I41 a0 6 := ⟨_, rfl⟩
          have fWi41 : Wi41.toInt = (I41 a0 6).toInt := by rw [eWi41]
          refine r_iload hC dX0_follow_57 7 rfl ?_
          refine r_aload_n hC dX0_follow_59 1 rfl ?_
          refine r_geti hC 1 (ci := 1) rfl u1_in (by decide) mT_1_185 dX0_follow_60 ka1 rfl rfl (fun x42_ e42 => ?_)
          have r42 := hs41.rng ka1 rfl e42
          have f42 : x42_.toInt = (I41 a1 1).toInt := by rw [e42]
          have w42 : x42_ = P1 := by rw [e42]; exact (Eq.trans (hF41.get ka1 rfl) eP1.symm)
          have wt42 : x42_.toInt = P1.toInt := by rw [w42]
          refine r_icmp_ge hC (tgt := 129) dX0_follow_63 (by decide) (fun c43 => ?_) (fun c43 => ?_)
          · refine r_aload_n hC dX0_follow_129 0 rfl ?_
            refine r_geti hC 5 (ci := 0) rfl u0_in (by decide) mT_2_35 dX0_follow_130 ka0 rfl rfl (fun x44_ e44 => ?_)
            have f44 : x44_.toInt = (I41 a0 5).toInt := by rw [e44]
            have w44 : x44_ = Gi41 := by rw [e44]; exact eGi41.symm
            have wt44 : x44_.toInt = Gi41.toInt := by rw [w44]
            refine r_iload hC dX0_follow_133 5 rfl ?_
            refine r_icmp_ne hC (tgt := 157) dX0_follow_135 (by decide) (fun c45 => ?_) (fun c45 => ?_)
            · have hgd : GV D s (Ad D s L x4.toInt) (x7_5.toInt.toNat + 1) ≠ ((x7_5.toInt.toNat : Nat) : Int) := by rw [GV_s, show (D 0 5).toNat = x41_7.toInt.toNat by omega, ← v41_3]; omega
              have tgd : (I41 tr x7_5.toInt.toNat).toInt = Ps (SV D s (Ad D s L x4.toInt) x7_5.toInt.toNat) (D 0 5).toNat := by rw [show (D 0 5).toNat = x41_7.toInt.toNat by omega]; exact v41_6
              obtain ⟨x46_, e46⟩ : ∃ z : Int32, z = x7_5 + Int32.ofInt (1) := ⟨_, rfl⟩
              refine r_iinc hC (j := 5) (v := x46_) (lv' := [(5, .int x46_), (0, .ref a0), (1, .ref a1), (2, .ref a2), (3, .ref a3), (4, .int x4), (6, .int x39_), (7, .int x41_7)]) dX0_follow_157 rfl (by rw [e46]) (by decide) rfl ?_
              try have t46 : x46_.toInt = x7_5.toInt + (1) := by rw [e46]; exact (ti_add (b := Int32.ofInt (1)) (by show _ ≤ _ + (1 : Int); omega) (by show _ + (1 : Int) ≤ _; omega))
              refine r_goto hC (tgt := 23) dX0_follow_160 (by decide) ?_
              have hv5 : I41 a0 5 = x44_ := e44.symm
              have hv5t : (I41 a0 5).toInt = x44_.toInt := congrArg Int32.toInt hv5
              have hv6 : I41 a0 6 = Wi41 := eWi41.symm
              have hv6t : (I41 a0 6).toInt = Wi41.toInt := congrArg Int32.toInt hv6
              refine r_sub [1, 2, 3, 4, 5, 0] rfl ?_
              exact ih7 ((60 - x46_.toInt).toNat) (by omega) x46_ I41 hs41 hF41 (by omega) (by omega) (by first | (rw [show x46_.toInt.toNat = 0 by omega]; exact CRi_0) | (rw [show x46_.toInt.toNat = x7_5.toInt.toNat + 1 by omega]; exact v41_2.day (by omega) tgd)) (by first | (rw [show x46_.toInt.toNat = 0 by omega, GV_0]; omega) | (rw [show x46_.toInt.toNat = x7_5.toInt.toNat + 1 by omega, GV_s, show (D 0 5).toNat = x41_7.toInt.toNat by omega]; have h9 := v41_3; omega)) (by exact v41_4) (by first | (rw [show x46_.toInt.toNat = 0 by omega, Wq_0]; omega) | (rw [show x46_.toInt.toNat = x7_5.toInt.toNat + 1 by omega, Wq_t hgd, ← wvf]; omega) | (rw [show x46_.toInt.toNat = x7_5.toInt.toNat + 1 by omega, Wq_n hgd]; have h9 := v41_5; omega)) (by exact v41_7) rfl
            · have hgd : GV D s (Ad D s L x4.toInt) (x7_5.toInt.toNat + 1) = ((x7_5.toInt.toNat : Nat) : Int) := by rw [GV_s, show (D 0 5).toNat = x41_7.toInt.toNat by omega, ← v41_3]; omega
              refine r_aload_n hC dX0_follow_138 0 rfl ?_
              refine r_aload_n hC dX0_follow_139 0 rfl ?_
              refine r_getr hC 3 (ci := 0) rfl u0_in (by decide) mT_2_32 dX0_follow_140 ka0 rfl rfl htr ?_
              refine r_iload hC dX0_follow_143 5 rfl ?_
              refine x_iaload hC ktr ltr (by decide) rfl rfl dX0_follow_145 (by omega) (by omega) (fun x47_ e47 => ?_)
              have qt : x47_.toInt = Ps (SV D s (Ad D s L x4.toInt) x7_5.toInt.toNat) x41_7.toInt.toNat := by rw [e47, clx (i := x7_5) rfl (by omega)]; exact v41_6
              have pvb := Pv_b (s := s) hJ hA0 x7_5.toInt.toNat x41_7.toInt.toNat
              refine r_aload_n hC dX0_follow_146 3 rfl ?_
              refine r_iload hC dX0_follow_147 5 rfl ?_
              refine x_iaload hC ka3 na3 (by decide) rfl rfl dX0_follow_149 (by omega) (by omega) (fun x48_ e48 => ?_)
              have ql48 := hL x7_5.toInt.toNat (by omega)
              have qv48 : x48_.toInt = L x7_5.toInt.toNat := by rw [e48, hF41.get ka3 rfl, clx (i := x7_5) rfl (by omega)]; exact ql48.1
              refine r_imul hC dX0_follow_150 (fun x49_ e49 => ?_)
              have mb49 := mul_b (a := x47_.toInt) (b := x48_.toInt) (A := 150500) (B := 999) (C := 150349500) (by decide) (by omega) (by omega) (by omega) (by omega)
              have tm49 : x49_.toInt = x47_.toInt * x48_.toInt := by rw [e49]; exact ti_mul rfl rfl (by omega) (by omega)
              refine r_bipush hC (v := (100)) dX0_follow_151 (by decide) (by decide) (fun x50_ e50 t50 => ?_)
              refine r_idiv hC dX0_follow_153 (ne_0 (by omega)) (fun x51_ e51 => ?_)
              have td51 : x51_.toInt = x49_.toInt / 100 := by rw [e51, ti_div (by omega) (by omega), show x50_.toInt = 100 by omega]
              have wvf : x51_.toInt = Ps (SV D s (Ad D s L x4.toInt) x7_5.toInt.toNat) (D 0 5).toNat * L x7_5.toInt.toNat / 100 := by rw [show (D 0 5).toNat = x41_7.toInt.toNat by omega, show Ps (SV D s (Ad D s L x4.toInt) x7_5.toInt.toNat) x41_7.toInt.toNat = x47_.toInt by omega, show L x7_5.toInt.toNat = x48_.toInt by omega]; omega
              refine r_puti hC 6 (ci := 0) rfl u0_in tyX0_ok nmX0 (by decide) mT_2_37 rfl rfl rfl dX0_follow_154 ka0 rfl rfl (fun I52 eI52 => ?_)
              have hs52 := hs41.put0 eI52 ka0 rfl rfl rfl (by decide)
              have hF52 := hF41.put eI52 ka0 rfl
              have oth52 : ∀ b k, b ≠ a0 → b ≠ sr → b ≠ ir → b ≠ wr → b ≠ tr → b ≠ dr → I52 b k = I b k := fun b k z1 z2 z3 z4 z5 z6 => (up2_at (Or.inl z1) eI52).trans (v41_7 b k z1 z2 z3 z4 z5 z6)
              have cr52 := v41_2.eq (I1 := I52) (fun b k z => up2_at (Or.inl (fun y => by rw [y] at z; exact na0 z)) eI52)
              have dv52 : ∀ j : Nat, j < 60 → (I52 dr j).toInt = (Ad D s L x4.toInt) j := fun j hj => by rw [up2_kk eI52 ka0 kdr (by decide)]; exact v41_4 j hj
              have tg52 : (I52 tr x7_5.toInt.toNat).toInt = Ps (SV D s (Ad D s L x4.toInt) x7_5.toInt.toNat) x41_7.toInt.toNat := by rw [up2_kk eI52 ka0 ktr (by decide)]; exact v41_6
              have tgd : (I52 tr x7_5.toInt.toNat).toInt = Ps (SV D s (Ad D s L x4.toInt) x7_5.toInt.toNat) (D 0 5).toNat := by rw [show (D 0 5).toNat = x41_7.toInt.toNat by omega]; exact tg52
              obtain ⟨x53_, e53⟩ : ∃ z : Int32, z = x7_5 + Int32.ofInt (1) := ⟨_, rfl⟩
              refine r_iinc hC (j := 5) (v := x53_) (lv' := [(5, .int x53_), (0, .ref a0), (1, .ref a1), (2, .ref a2), (3, .ref a3), (4, .int x4), (6, .int x39_), (7, .int x41_7)]) dX0_follow_157 rfl (by rw [e53]) (by decide) rfl ?_
              try have t53 : x53_.toInt = x7_5.toInt + (1) := by rw [e53]; exact (ti_add (b := Int32.ofInt (1)) (by show _ ≤ _ + (1 : Int); omega) (by show _ + (1 : Int) ≤ _; omega))
              refine r_goto hC (tgt := 23) dX0_follow_160 (by decide) ?_
              have hv5 : I52 a0 5 = x44_ := (Eq.trans (up2_at (Or.inr (by decide)) eI52) e44.symm)
              have hv5t : (I52 a0 5).toInt = x44_.toInt := congrArg Int32.toInt hv5
              have hv6 : I52 a0 6 = x51_ := (by rw [eI52]; exact up2_self _ _ _ _)
              have hv6t : (I52 a0 6).toInt = x51_.toInt := congrArg Int32.toInt hv6
              refine r_sub [1, 2, 3, 4, 5, 0] rfl ?_
              exact ih7 ((60 - x53_.toInt).toNat) (by omega) x53_ I52 hs52 hF52 (by omega) (by omega) (by first | (rw [show x53_.toInt.toNat = 0 by omega]; exact CRi_0) | (rw [show x53_.toInt.toNat = x7_5.toInt.toNat + 1 by omega]; exact cr52.day (by omega) tgd)) (by first | (rw [show x53_.toInt.toNat = 0 by omega, GV_0]; omega) | (rw [show x53_.toInt.toNat = x7_5.toInt.toNat + 1 by omega, GV_s, show (D 0 5).toNat = x41_7.toInt.toNat by omega]; have h9 := v41_3; omega)) (by exact dv52) (by first | (rw [show x53_.toInt.toNat = 0 by omega, Wq_0]; omega) | (rw [show x53_.toInt.toNat = x7_5.toInt.toNat + 1 by omega, Wq_t hgd, ← wvf]; omega) | (rw [show x53_.toInt.toNat = x7_5.toInt.toNat + 1 by omega, Wq_n hgd]; have h9 := v41_5; omega)) (by exact oth52) rfl
          · have cb := Cs_b (s := s) hJ hA0 x7_5.toInt.toNat x41_7.toInt.toNat
            have hvp : 0 < x7_5.toInt → (I41 sr (60 * x41_7.toInt.toNat + x7_5.toInt.toNat - 1)).toInt = (Cs D s (Ad D s L x4.toInt) x7_5.toInt.toNat).1 x41_7.toInt.toNat := fun z => by have h9 := (v41_2.1 (x7_5.toInt.toNat - 1) x41_7.toInt.toNat (Or.inl (by omega)) (by omega)).1; rw [show 60 * x41_7.toInt.toNat + (x7_5.toInt.toNat - 1) = 60 * x41_7.toInt.toNat + x7_5.toInt.toNat - 1 by omega] at h9; rw [h9]; show (Cs D s (Ad D s L x4.toInt) (x7_5.toInt.toNat - 1 + 1)).1 x41_7.toInt.toNat = _; rw [show x7_5.toInt.toNat - 1 + 1 = x7_5.toInt.toNat by omega]
            have hnp : 0 < x7_5.toInt → (I41 ir (60 * x41_7.toInt.toNat + x7_5.toInt.toNat - 1)).toInt = (Cs D s (Ad D s L x4.toInt) x7_5.toInt.toNat).2.1 x41_7.toInt.toNat := fun z => by have h9 := (v41_2.1 (x7_5.toInt.toNat - 1) x41_7.toInt.toNat (Or.inl (by omega)) (by omega)).2.1; rw [show 60 * x41_7.toInt.toNat + (x7_5.toInt.toNat - 1) = 60 * x41_7.toInt.toNat + x7_5.toInt.toNat - 1 by omega] at h9; rw [h9]; show (Cs D s (Ad D s L x4.toInt) (x7_5.toInt.toNat - 1 + 1)).2.1 x41_7.toInt.toNat = _; rw [show x7_5.toInt.toNat - 1 + 1 = x7_5.toInt.toNat by omega]
            have hwp : 0 < x7_5.toInt → (I41 wr (60 * x41_7.toInt.toNat + x7_5.toInt.toNat - 1)).toInt = (Cs D s (Ad D s L x4.toInt) x7_5.toInt.toNat).2.2.1 x41_7.toInt.toNat := fun z => by have h9 := (v41_2.1 (x7_5.toInt.toNat - 1) x41_7.toInt.toNat (Or.inl (by omega)) (by omega)).2.2; rw [show 60 * x41_7.toInt.toNat + (x7_5.toInt.toNat - 1) = 60 * x41_7.toInt.toNat + x7_5.toInt.toNat - 1 by omega] at h9; rw [h9]; show (Cs D s (Ad D s L x4.toInt) (x7_5.toInt.toNat - 1 + 1)).2.2.1 x41_7.toInt.toNat = _; rw [show x7_5.toInt.toNat - 1 + 1 = x7_5.toInt.toNat by omega]
            have hz0 : x7_5.toInt = 0 → (Cs D s (Ad D s L x4.toInt) x7_5.toInt.toNat).1 x41_7.toInt.toNat = 0 ∧ (Cs D s (Ad D s L x4.toInt) x7_5.toInt.toNat).2.1 x41_7.toInt.toNat = 0 ∧ (Cs D s (Ad D s L x4.toInt) x7_5.toInt.toNat).2.2.1 x41_7.toInt.toNat = 0 := fun z => by rw [show x7_5.toInt.toNat = 0 by omega]; exact ⟨rfl, rfl, rfl⟩
            refine r_iload hC dX0_follow_66 6 rfl ?_
            refine r_if_eq hC (tgt := 84) dX0_follow_68 (by decide) (fun c54 => ?_) (fun c54 => ?_)
            · exfalso; omega
            refine r_aload_n hC dX0_follow_71 0 rfl ?_
            refine r_aload_n hC dX0_follow_72 1 rfl ?_
            refine r_aload_n hC dX0_follow_73 2 rfl ?_
            refine r_iload hC dX0_follow_74 7 rfl ?_
            refine r_iload hC dX0_follow_76 5 rfl ?_
            refine r_callV hC (As := [.ref a1, .ref a2, .int x41_7, .int x7_5]) (rest := []) (ci := 0) (f_X0_speedOf g (xL X) K len I41 J R hs41 a0 ka0 a1 ka1 a2 ka2 x41_7 x7_5 sr hsr ksr lsr ir hir kir lir wr hwr kwr lwr dr hdr kdr ldr lk D hJ (rwd.mv hcx qC_big hF41 rfl) s hsk (by rw [hF41.get ka2 rfl]; exact k7) (fun z => by rw [hF41.get ka2 rfl]; exact k9 z) (Ad D s L x4.toInt) (fun j hj => ⟨v41_4 j hj, hA0 j⟩) ((Cs D s (Ad D s L x4.toInt) x7_5.toInt.toNat).1 x41_7.toInt.toNat) ((Cs D s (Ad D s L x4.toInt) x7_5.toInt.toNat).2.2.1 x41_7.toInt.toNat) ⟨cb.1, cb.2.2.1, by omega⟩ (fun z => ⟨(hz0 z).1, (hz0 z).2.2⟩) hvp hwp (by omega) (by omega) (by omega) (by omega) (by omega)) mT_3_189 mT_1_8 mT_3_186 mT_3_188 mP_31 okX0_speedOf ⟨by decide, by decide⟩ rfl (by show kO (K a0) = _; rw [ka0]; rfl) rfl rfl (Nat.le_of_ble_eq_true rfl) ⟨by decide, by decide⟩ dX0_follow_78 (aI0 (F := fun st M => P g X 9 81 [(0, .ref a0), (1, .ref a1), (2, .ref a2), (3, .ref a3), (4, .int x4), (5, .int x7_5), (6, .int x39_), (7, .int x41_7)] st _ _ M) (M := (K, len, I41, J, R)) fun x55_ h55 => ?_)
            have k55_0 := h55
            clear h55
            show P g X 9 81 [(0, .ref a0), (1, .ref a1), (2, .ref a2), (3, .ref a3), (4, .int x4), (5, .int x7_5), (6, .int x39_), (7, .int x41_7)] [.int x55_] _ _ (K, len, I41, J, R)
            refine r_goto hC (tgt := 85) dX0_follow_81 (by decide) ?_
            have sv : x55_.toInt = SV D s (Ad D s L x4.toInt) x7_5.toInt.toNat x41_7.toInt.toNat := by rw [SV_eq, if_pos hgn]; exact k55_0
            have svb := SV_b (s := s) hJ hA0 x7_5.toInt.toNat x41_7.toInt.toNat
            refine r_istore hC (lv' := [(8, .int x55_), (0, .ref a0), (1, .ref a1), (2, .ref a2), (3, .ref a3), (4, .int x4), (5, .int x7_5), (6, .int x39_), (7, .int x41_7)]) dX0_follow_85 (by decide) rfl ?_
            refine r_aload_n hC dX0_follow_87 1 rfl ?_
            refine r_iload hC dX0_follow_88 0 rfl ?_
            refine r_aload_n hC dX0_follow_90 3 rfl ?_
            refine r_iload hC dX0_follow_91 8 rfl ?_
            refine r_iload hC dX0_follow_93 6 rfl ?_
            refine r_callV hC (As := [.int x55_, .ref a2, .int x41_7, .int x7_5]) (rest := []) (ci := 0) (f_X0_creepBy g (xL X) K len I41 J R hs41 a0 ka0 x55_ a2 ka2 x41_7 x7_5 sr hsr ksr lsr ir hir kir lir wr hwr kwr lwr D s (by rw [hF41.get ka2 rfl]; exact k7) (fun z => by rw [hF41.get ka2 rfl]; exact k9 z) ((Cs D s (Ad D s L x4.toInt) x7_5.toInt.toNat).2.1 x41_7.toInt.toNat) ((Cs D s (Ad D s L x4.toInt) x7_5.toInt.toNat).2.2.1 x41_7.toInt.toNat) ⟨by omega, ⟨cb.2.1.1, by omega⟩, cb.2.2.1, by omega⟩ (fun z => (hz0 z).2) hnp hwp (by omega) (by omega) (by omega) (by omega)) mT_3_196 mT_1_8 mT_3_193 mT_3_195 mP_32 okX0_creepBy ⟨by decide, by decide⟩ rfl (by show kO (K a0) = _; rw [ka0]; rfl) rfl rfl (Nat.le_of_ble_eq_true rfl) ⟨by decide, by decide⟩ dX0_follow_95 (aV1 (F := fun st M => P g X 9 98 [(8, .int x55_), (0, .ref a0), (1, .ref a1), (2, .ref a2), (3, .ref a3), (4, .int x4), (5, .int x7_5), (6, .int x39_), (7, .int x41_7)] st _ _ M) (M := (K, len, I41, J, R)) fun I56 h56 => ?_)
            obtain ⟨hs56, hf56, k56_0, k56_1, k56_2, k56_3⟩ := h56
            show P g X 9 98 [(8, .int x55_), (0, .ref a0), (1, .ref a1), (2, .ref a2), (3, .ref a3), (4, .int x4), (5, .int x7_5), (6, .int x39_), (7, .int x41_7)] [] _ _ (K, len, I56, J, R)
            have hF56 : Fr K [(1, 5), (1, 6), (50, 999), (51, 999), (52, 999), (53, 999), (54, 999)] I I56 := hF41.trans hf56 rfl rfl
            have oth56 : ∀ b k, b ≠ a0 → b ≠ sr → b ≠ ir → b ≠ wr → b ≠ tr → b ≠ dr → I56 b k = I b k := fun b k z1 z2 z3 z4 z5 z6 => (k56_3 b k (fun y => by rcases y.2 with y | y | y; exact z2 y; exact z3 y; exact z4 y)).trans (v41_7 b k z1 z2 z3 z4 z5 z6)
            have dv56 : ∀ j : Nat, j < 60 → (I56 dr j).toInt = (Ad D s L x4.toInt) j := fun j hj => by rw [hf56.get kdr rfl]; exact v41_4 j hj
            have tg56 : (I56 tr x7_5.toInt.toNat).toInt = Ps (SV D s (Ad D s L x4.toInt) x7_5.toInt.toNat) x41_7.toInt.toNat := by rw [hf56.get ktr rfl]; exact v41_6
            have cr56 := v41_2.peg (I1 := I56) (p := x41_7.toInt.toNat) (by omega) (k56_0.trans sv) (by rw [k56_1, NV_eq, sv]) (by rw [k56_2, WV_eq, NV_eq, sv]) (fun b k hb hk => k56_3 b k (fun z => hk z.1)) (fun j hj => hf56.get ktr rfl)
            refine r_aload_n hC dX0_follow_98 1 rfl ?_
            refine r_getr hC 3 (ci := 0) rfl u0_in (by decide) mT_2_32 dX0_follow_99 ka0 rfl rfl htr ?_
            refine r_iload hC dX0_follow_102 6 rfl ?_
            refine r_dup2 hC dX0_follow_104 rfl rfl ?_
            refine x_iaload hC ktr ltr (by decide) rfl rfl dX0_follow_105 (by omega) (by omega) (fun x57_ e57 => ?_)
            have qt : x57_.toInt = Ps (SV D s (Ad D s L x4.toInt) x7_5.toInt.toNat) x41_7.toInt.toNat := by rw [e57, clx (i := x7_5) rfl (by omega)]; exact tg56
            have pvb := Pv_b (s := s) hJ hA0 x7_5.toInt.toNat x41_7.toInt.toNat
            refine r_iload hC dX0_follow_106 0 rfl ?_
            refine r_iadd hC dX0_follow_108 (fun x58_ e58 => ?_)
            try have t58 : x58_.toInt = x57_.toInt + x55_.toInt := by rw [e58]; exact ti_add (by omega) (by omega)
            refine x_iastore hC ktr ltr (by decide) rfl rfl dX0_follow_109 (by omega) (by omega) (fun I59 eI59 => ?_)
            have hs59 := hs56.put0 eI59 ktr (rng_arr (by decide) _) rfl (xF_arr (by decide) _) (by decide)
            have hF59 := hF56.put eI59 ktr (inS_arr rfl _)
            have eC59 := eI59
            rw [clx (i := x7_5) rfl (by omega)] at eC59
            have oth59 : ∀ b k, b ≠ a0 → b ≠ sr → b ≠ ir → b ≠ wr → b ≠ tr → b ≠ dr → I59 b k = I b k := fun b k z1 z2 z3 z4 z5 z6 => (up2_at (Or.inl z5) eI59).trans (oth56 b k z1 z2 z3 z4 z5 z6)
            have cr59 := cr56.tgs eC59 nst nit nwt
            have dv59 : ∀ j : Nat, j < 60 → (I59 dr j).toInt = (Ad D s L x4.toInt) j := fun j hj => by rw [up2_kk eI59 ktr kdr (by decide)]; exact dv56 j hj
            have tg59 : (I59 tr x7_5.toInt.toNat).toInt = x58_.toInt := by rw [eC59, up2_self]
            refine r_iload hC dX0_follow_110 0 rfl ?_
            refine r_bipush hC (v := (100)) dX0_follow_112 (by decide) (by decide) (fun x60_ e60 t60 => ?_)
            refine r_icmp_lt hC (tgt := 123) dX0_follow_114 (by decide) (fun c61 => ?_) (fun c61 => ?_)
            · obtain ⟨x62_, e62⟩ : ∃ z : Int32, z = x41_7 + Int32.ofInt (1) := ⟨_, rfl⟩
              refine r_iinc hC (j := 8) (v := x62_) (lv' := [(7, .int x62_), (8, .int x55_), (0, .ref a0), (1, .ref a1), (2, .ref a2), (3, .ref a3), (4, .int x4), (5, .int x7_5), (6, .int x39_)]) dX0_follow_123 rfl (by rw [e62]) (by decide) rfl ?_
              try have t62 : x62_.toInt = x41_7.toInt + (1) := by rw [e62]; exact (ti_add (b := Int32.ofInt (1)) (by show _ ≤ _ + (1 : Int); omega) (by show _ + (1 : Int) ≤ _; omega))
              refine r_goto hC (tgt := 57) dX0_follow_126 (by decide) ?_
              have hv5 : I59 a0 5 = Gi41 := (Eq.trans (up2_kk eI59 ktr ka0 (by decide)) (Eq.trans (hf56.get ka0 rfl) eGi41.symm))
              have hv5t : (I59 a0 5).toInt = Gi41.toInt := congrArg Int32.toInt hv5
              have hv6 : I59 a0 6 = Wi41 := (Eq.trans (up2_kk eI59 ktr ka0 (by decide)) (Eq.trans (hf56.get ka0 rfl) eWi41.symm))
              have hv6t : (I59 a0 6).toInt = Wi41.toInt := congrArg Int32.toInt hv6
              refine r_sub [2, 3, 4, 5, 6, 7, 8, 0] rfl ?_
              exact ih41 ((5 - x62_.toInt).toNat) (by omega) x62_ I59 hs59 hF59 (by omega) (by omega) (by first | (rw [show x62_.toInt.toNat = 0 by omega]; exact cr59) | (rw [show x62_.toInt.toNat = x41_7.toInt.toNat + 1 by omega]; exact cr59)) (by first | (rw [show x62_.toInt.toNat = 0 by omega]; show _ = GV D s (Ad D s L x4.toInt) _; omega) | (rw [show x62_.toInt.toNat = x41_7.toInt.toNat + 1 by omega, gs_t (by rw [← sv]; omega)]; omega) | (rw [show x62_.toInt.toNat = x41_7.toInt.toNat + 1 by omega, gs_n (by rw [← sv]; omega)]; omega)) (by exact dv59) (by omega) (by first | (rw [show x62_.toInt.toNat = 0 by omega, tg59]; show _ = (0 : Int); omega) | (rw [show x62_.toInt.toNat = x41_7.toInt.toNat + 1 by omega, tg59]; show _ = Ps _ _ + SV _ _ _ _ _; omega)) (by exact oth59) rfl
            · refine r_aload_n hC dX0_follow_117 1 rfl ?_
              refine r_iload hC dX0_follow_118 6 rfl ?_
              refine r_puti hC 5 (ci := 0) rfl u0_in tyX0_ok nmX0 (by decide) mT_2_35 rfl rfl rfl dX0_follow_120 ka0 rfl rfl (fun I63 eI63 => ?_)
              have hs63 := hs59.put0 eI63 ka0 rfl rfl rfl (by decide)
              have hF63 := hF59.put eI63 ka0 rfl
              have oth63 : ∀ b k, b ≠ a0 → b ≠ sr → b ≠ ir → b ≠ wr → b ≠ tr → b ≠ dr → I63 b k = I b k := fun b k z1 z2 z3 z4 z5 z6 => (up2_at (Or.inl z1) eI63).trans (oth59 b k z1 z2 z3 z4 z5 z6)
              have cr63 := cr59.eq (I1 := I63) (fun b k z => up2_at (Or.inl (fun y => by rw [y] at z; exact na0 z)) eI63)
              have dv63 : ∀ j : Nat, j < 60 → (I63 dr j).toInt = (Ad D s L x4.toInt) j := fun j hj => by rw [up2_kk eI63 ka0 kdr (by decide)]; exact dv59 j hj
              have tg63 : (I63 tr x7_5.toInt.toNat).toInt = x58_.toInt := by rw [up2_kk eI63 ka0 ktr (by decide)]; exact tg59
              obtain ⟨x64_, e64⟩ : ∃ z : Int32, z = x41_7 + Int32.ofInt (1) := ⟨_, rfl⟩
              refine r_iinc hC (j := 8) (v := x64_) (lv' := [(7, .int x64_), (8, .int x55_), (0, .ref a0), (1, .ref a1), (2, .ref a2), (3, .ref a3), (4, .int x4), (5, .int x7_5), (6, .int x39_)]) dX0_follow_123 rfl (by rw [e64]) (by decide) rfl ?_
              try have t64 : x64_.toInt = x41_7.toInt + (1) := by rw [e64]; exact (ti_add (b := Int32.ofInt (1)) (by show _ ≤ _ + (1 : Int); omega) (by show _ + (1 : Int) ≤ _; omega))
              refine r_goto hC (tgt := 57) dX0_follow_126 (by decide) ?_
              have hv5 : I63 a0 5 = x7_5 := (by rw [eI63]; exact up2_self _ _ _ _)
              have hv5t : (I63 a0 5).toInt = x7_5.toInt := congrArg Int32.toInt hv5
              have hv6 : I63 a0 6 = Wi41 := (Eq.trans (up2_at (Or.inr (by decide)) eI63) (Eq.trans (up2_kk eI59 ktr ka0 (by decide)) (Eq.trans (hf56.get ka0 rfl) eWi41.symm)))
              have hv6t : (I63 a0 6).toInt = Wi41.toInt := congrArg Int32.toInt hv6
              refine r_sub [2, 3, 4, 5, 6, 7, 8, 0] rfl ?_
              exact ih41 ((5 - x64_.toInt).toNat) (by omega) x64_ I63 hs63 hF63 (by omega) (by omega) (by first | (rw [show x64_.toInt.toNat = 0 by omega]; exact cr63) | (rw [show x64_.toInt.toNat = x41_7.toInt.toNat + 1 by omega]; exact cr63)) (by first | (rw [show x64_.toInt.toNat = 0 by omega]; show _ = GV D s (Ad D s L x4.toInt) _; omega) | (rw [show x64_.toInt.toNat = x41_7.toInt.toNat + 1 by omega, gs_t (by rw [← sv]; omega)]; omega) | (rw [show x64_.toInt.toNat = x41_7.toInt.toNat + 1 by omega, gs_n (by rw [← sv]; omega)]; omega)) (by exact dv63) (by omega) (by first | (rw [show x64_.toInt.toNat = 0 by omega, tg63]; show _ = (0 : Int); omega) | (rw [show x64_.toInt.toNat = x41_7.toInt.toNat + 1 by omega, tg63]; show _ = Ps _ _ + SV _ _ _ _ _; omega)) (by exact oth63) rfl
        have hv5 : I11 a0 5 = x12_ := e12.symm
        have hv5t : (I11 a0 5).toInt = x12_.toInt := congrArg Int32.toInt hv5
        have hv6 : I11 a0 6 = Wo7 := (Eq.trans (up2_kk eI11 ktr ka0 (by decide)) eWo7.symm)
        have hv6t : (I11 a0 6).toInt = Wo7.toInt := congrArg Int32.toInt hv6
        refine r_sub [2, 3, 4, 5, 6, 7, 1, 0] rfl ?_
        exact LP41 _ x40_ I11 hs11 hF11 (by omega) (by omega) (by first | (rw [show x40_.toInt.toNat = 0 by omega]; exact cr11) | (rw [show x40_.toInt.toNat = x41_7.toInt.toNat + 1 by omega]; exact cr11)) (by first | (rw [show x40_.toInt.toNat = 0 by omega]; show _ = GV D s (Ad D s L x4.toInt) _; omega) | (rw [show x40_.toInt.toNat = x41_7.toInt.toNat + 1 by omega, gs_t (by rw [← sv]; omega)]; omega) | (rw [show x40_.toInt.toNat = x41_7.toInt.toNat + 1 by omega, gs_n (by rw [← sv]; omega)]; omega)) (by exact dv11) (by omega) (by first | (rw [show x40_.toInt.toNat = 0 by omega, tg11]; show _ = (0 : Int); omega) | (rw [show x40_.toInt.toNat = x41_7.toInt.toNat + 1 by omega, tg11]; show _ = Ps _ _ + SV _ _ _ _ _; omega)) (by exact oth11) rfl
  have hv5 : I5 a0 5 = x2_ := (Eq.trans (up2_at (Or.inr (by decide)) eI5) (by rw [eI3]; exact up2_self _ _ _ _))
  have hv5t : (I5 a0 5).toInt = x2_.toInt := congrArg Int32.toInt hv5
  have hv6 : I5 a0 6 = x4_ := (by rw [eI5]; exact up2_self _ _ _ _)
  have hv6t : (I5 a0 6).toInt = x4_.toInt := congrArg Int32.toInt hv6
  refine r_sub [1, 2, 3, 4, 5, 0] rfl ?_
  exact LP7 _ x6_ I5 hs5 hF5 (by omega) (by omega) (by first | (rw [show x6_.toInt.toNat = 0 by omega]; exact CRi_0) | (rw [show x6_.toInt.toNat = x7_5.toInt.toNat + 1 by omega]; exact NOcri.day (by omega) tgd)) (by first | (rw [show x6_.toInt.toNat = 0 by omega, GV_0]; omega) | (rw [show x6_.toInt.toNat = x7_5.toInt.toNat + 1 by omega, GV_s, show (D 0 5).toNat = NOpN by omega]; have h9 := NOx_v57_3; omega)) (by exact dv5) (by first | (rw [show x6_.toInt.toNat = 0 by omega, Wq_0]; omega) | (rw [show x6_.toInt.toNat = x7_5.toInt.toNat + 1 by omega, Wq_t hgd, ← wvf]; omega) | (rw [show x6_.toInt.toNat = x7_5.toInt.toNat + 1 by omega, Wq_n hgd]; have h9 := NOx_v57_5; omega)) (by exact oth5) rfl

