set_option maxHeartbeats 4000000 in
set_option maxRecDepth 100000 in
theorem n_X8_hill (g : GG) (l : Launch) (K len : Nat → Nat) (I : Nat → Nat → Int32) (J : Nat → Nat → Int64) (R : Nat → Nat → Option Nat) (hs : Sf K len I R) (a0 : Nat) (ka0 : K a0 = 9) (x1 : Int32) (tp : Nat) (htp : R a0 0 = some tp) (hkt : K tp = 6) (bt : Nat) (hbb : R tp 0 = some bt) (hkb : K bt = 40) (nbt : len bt = 900) (te : Nat) (hte : R a0 1 = some te) (kte : K te = 7) (tk : Nat) (htk : R te 0 = some tk) (ktk : K tk = 8) (hbt : R tk 0 = some tp) (nr : Nat) (hnr : R te 1 = some nr) (knr : K nr = 42) (lnr : len nr = 19) (pr : Nat) (hpr : R te 2 = some pr) (kpr : K pr = 48) (lpr : len pr = 5) (h : Nat) (hh : R a0 2 = some h) (kh : K h = 2) (s : Nat) (hs2 : R a0 3 = some s) (ks : K s = 2) (lk : Nat) (hlk2 : R h 0 = some lk) (klk : K lk = 3) (ls : Nat) (hls : R s 0 = some ls) (kls : K ls = 3) (rd : Nat) (hrd : R a0 9 = some rd) (krd : K rd = 4) (nhs : h ≠ s) (nls : lk ≠ ls) (lv : Nat) (hlv : R a0 4 = some lv) (klv : K lv = 41) (llv : len lv = 60) (kn : Nat) (hkn : R a0 6 = some kn) (kkn : K kn = 43) (lkn : len kn = 6) (hu : UU K R) (B : Nat → Int) (N : Nat) (hN : (I tp 1).toInt = N) (hB : BT B N bt I) : Ct g l yX8_hill cX8_hill 4 (Option.some Jvm.ClassFile.FieldType.int) rmX8_hill [.ref a0, .int x1] (K, len, I, J, R) (pI3 (K, len, I, J, R) (fun r I' J' R' => Sf K len I' R' ∧ Fr K [(2, 1), (2, 4), (2, 6), (2, 8), (2, 12), (3, 0), (3, 1), (3, 2), (3, 3), (3, 4), (3, 5), (4, 0), (5, 0), (5, 1), (5, 2), (5, 3), (6, 1), (7, 3), (7, 4), (7, 5), (7, 6), (8, 1), (8, 2), (8, 3), (8, 4), (9, 12), (41, 999), (43, 999), (55, 999), (56, 999), (57, 999), (58, 999), (59, 999), (60, 999), (61, 999), (62, 999), (63, 999), (64, 999)] I I' ∧ Fr K [(8, 5), (42, 999), (48, 999)] J J' ∧ Fr K [(9, 2), (9, 3)] R R' ∧ ((¬ (0 ≤ x1.toInt ∧ x1.toInt ≤ N) ∧ r.toInt = -1 ∧ (I' a0 12).toInt = 2 ∧ Fr K [(9, 12)] I I' ∧ R' = R ∧ R' a0 2 = some h ∧ R' a0 3 = some s) ∨ ((0 ≤ x1.toInt ∧ x1.toInt ≤ N) ∧ (∃ (kf : Int) (qf : Nat), sHill B x1.toInt.toNat 902 0 D0 = .error (kf, qf) ∧ r.toInt = -1 ∧ (I' a0 12).toInt = 4 ∧ (I' tp 1).toInt = 0 ∧ (I' te 5).toInt = kf ∧ (I' te 6).toInt = qf ∧ I' h = I h ∧ I' lk = I lk ∧ (I' rd 0).toInt = (I rd 0).toInt ∧ (∀ (N : Nat → Int) (D : DD), RW (CC h lk R) N D I → RW (CC h lk R) N D I') ∧ (∀ j, I' lv j = I lv j) ∧ (∀ j, I' kn j = I kn j) ∧ R' = R ∧ R' a0 2 = some h ∧ R' a0 3 = some s)) ∨ ((0 ≤ x1.toInt ∧ x1.toInt ≤ N) ∧ (∃ (D' : DD), sHill B x1.toInt.toNat 902 0 D0 = .ok D' ∧ r.toInt = D' 0 7 ∧ (I' a0 12).toInt = 0 ∧ (I' tp 1).toInt = 0 ∧ (I' te 5).toInt = 0 ∧ RpC D' te nr pr s ls I' J' ∧ RW (CC s ls R') (cntN D') D' I' ∧ DJ D' ∧ DI D' ∧ LvR D' lv I' ∧ (∀ j : Nat, j < 6 → (I' kn j).toInt = 0) ∧ (I' ls 5).toInt = 0 ∧ (I' rd 0).toInt = 0 ∧ R' a0 2 = some s ∧ R' a0 3 = some h))) ∧ (UU K R'))) := by
  refine Ct_intro (by decide +kernel) (Nat.le_of_ble_eq_true rfl) (fun X hC hL hKK hNm hr hlk hQ => ?_)
  subst hL
  have hC : Cx g X cX8_hill "HillTap" 4 rmX8_hill := hC
  show P g X 4 0 [(0, .ref a0), (1, .int x1)] [] 0 0 (K, len, I, J, R)
  have hF : Fr K [(2, 1), (2, 4), (2, 6), (2, 8), (2, 12), (3, 0), (3, 1), (3, 2), (3, 3), (3, 4), (3, 5), (4, 0), (5, 0), (5, 1), (5, 2), (5, 3), (6, 1), (7, 3), (7, 4), (7, 5), (7, 6), (8, 1), (8, 2), (8, 3), (8, 4), (9, 12), (41, 999), (43, 999), (55, 999), (56, 999), (57, 999), (58, 999), (59, 999), (60, 999), (61, 999), (62, 999), (63, 999), (64, 999)] I I := Fr.refl
  have hFJ : Fr K [(8, 5), (42, 999), (48, 999)] J J := Fr.refl
  have hFR : Fr K [(9, 2), (9, 3)] R R := Fr.refl
  have b_x1 := ti_rng x1
  obtain ⟨L0, eL0⟩ : ∃ z : Int32, z = I tp 1 := ⟨_, rfl⟩
  have fL0 : L0.toInt = (I tp 1).toInt := by rw [eL0]
  have rL0 := hs.rng hkt rfl eL0
  obtain ⟨F0, eF0⟩ : ∃ z : Int32, z = I te 5 := ⟨_, rfl⟩
  have fF0 : F0.toInt = (I te 5).toInt := by rw [eF0]
  obtain ⟨Q0, eQ0⟩ : ∃ z : Int32, z = I te 6 := ⟨_, rfl⟩
  have fQ0 : Q0.toInt = (I te 6).toInt := by rw [eQ0]
  obtain ⟨C0, eC0⟩ : ∃ z : Int32, z = I rd 0 := ⟨_, rfl⟩
  have fC0 : C0.toInt = (I rd 0).toInt := by rw [eC0]
  have rC0 := hs.rng krd rfl eC0
  have hcs := CC_x hs ks kls hu
  have hch := CC_x hs kh klk hu
  have ow0 : ∀ (N : Nat → Int) (D : DD), RW (CC h lk R) N D I → RW (CC h lk R) N D I := fun _ _ z => z
  refine r_iload_n hC dX8_hill_0 1 rfl ?_
  refine r_if_lt hC (tgt := 15) dX8_hill_1 (by decide) (fun c1 => ?_) (fun c1 => ?_)
  · refine r_aload_n hC dX8_hill_15 0 rfl ?_
    refine r_iconst hC (v := (2)) dX8_hill_16 (by decide) (by decide) (fun x2_ e2 t2 => ?_)
    refine r_callV hC (As := [.int x2_]) (rest := []) (ci := 8) (c_X8_refuse g (xL X) K len I J R hs a0 ka0 x2_) mT_2_133 mT_1_1 mT_2_130 mT_2_132 mP_0 okX8_refuse ⟨by decide, by decide⟩ rfl (by show kO (K a0) = _; rw [ka0]; rfl) rfl rfl (Nat.le_of_ble_eq_true rfl) ⟨by decide, by decide⟩ dX8_hill_17 (aI1 (F := fun st M => P g X 4 20 [(0, .ref a0), (1, .int x1)] st _ _ M) (M := (K, len, I, J, R)) fun x3_ I3 h3 => ?_)
    obtain ⟨hs3, hf3, k3_0, k3_1⟩ := h3
    show P g X 4 20 [(0, .ref a0), (1, .int x1)] [.int x3_] _ _ (K, len, I3, J, R)
    have hF3 : Fr K [(2, 1), (2, 4), (2, 6), (2, 8), (2, 12), (3, 0), (3, 1), (3, 2), (3, 3), (3, 4), (3, 5), (4, 0), (5, 0), (5, 1), (5, 2), (5, 3), (6, 1), (7, 3), (7, 4), (7, 5), (7, 6), (8, 1), (8, 2), (8, 3), (8, 4), (9, 12), (41, 999), (43, 999), (55, 999), (56, 999), (57, 999), (58, 999), (59, 999), (60, 999), (61, 999), (62, 999), (63, 999), (64, 999)] I I3 := hF.trans hf3 rfl rfl
    have lvk3 : ∀ j, I3 lv j = I lv j := fun j => (hf3.get klv rfl).trans ((fun _ => rfl) j)
    have knk3 : ∀ j, I3 kn j = I kn j := fun j => (hf3.get kkn rfl).trans ((fun _ => rfl) j)
    have rwh_3 : I3 h = I h := (funext fun j => hf3.get kh rfl).trans rfl
    have rwlk_3 : I3 lk = I lk := (funext fun j => hf3.get klk rfl).trans rfl
    have ow3 : ∀ (N : Nat → Int) (D : DD), RW (CC h lk R) N D I → RW (CC h lk R) N D I3 := fun N D z => (ow0 N D z).mv hch qC_big hf3 rfl
    have hv1 : I3 tp 1 = L0 := (Eq.trans (hf3.get hkt rfl) eL0.symm)
    have hv1t : (I3 tp 1).toInt = L0.toInt := congrArg Int32.toInt hv1
    have hv5 : I3 te 5 = F0 := (Eq.trans (hf3.get kte rfl) eF0.symm)
    have hv5t : (I3 te 5).toInt = F0.toInt := congrArg Int32.toInt hv5
    have hv6 : I3 te 6 = Q0 := (Eq.trans (hf3.get kte rfl) eQ0.symm)
    have hv6t : (I3 te 6).toInt = Q0.toInt := congrArg Int32.toInt hv6
    have hvC : I3 rd 0 = C0 := (Eq.trans (hf3.get krd rfl) eC0.symm)
    have hvCt : (I3 rd 0).toInt = C0.toInt := congrArg Int32.toInt hvC
    exact r_iret hC hQ hlk hr rfl (by decide) (by decide) dX8_hill_20 ⟨_, _, _, _, rfl, rfl, ⟨hs3, hF3, hFJ, hFR, (by first | exact Or.inl ⟨by omega, by omega, by omega, hf3, rfl, hh, hs2⟩ | exact Or.inr (Or.inl ⟨by omega, kf0, qf0, hsp0, by omega, by omega, by omega, by omega, by omega, rwh_3, rwlk_3, by omega, ow3, lvk3, knk3, rfl, hh, hs2⟩) | exact Or.inr (Or.inr ⟨by omega, D0, hsp0, by have h9 := congrArg Int32.toInt k3_0; omega, by omega, by omega, by omega, NOrep, NOrw8.cR hs ks kls hFR rfl, hJT0, hDT0, NOlvr, NOpz, by omega, hh, hs2⟩)), (by exact hu)⟩⟩
  · refine r_iload_n hC dX8_hill_4 1 rfl ?_
    refine r_aload_n hC dX8_hill_5 0 rfl ?_
    refine r_getr hC 0 (ci := 8) rfl u8_in (by decide) mT_2_78 dX8_hill_6 ka0 rfl rfl htp ?_
    refine r_geti hC 1 (ci := 5) rfl u5_in (by decide) mT_1_38 dX8_hill_9 hkt rfl rfl (fun x4_ e4 => ?_)
    have r4 := hs.rng hkt rfl e4
    have f4 : x4_.toInt = (I tp 1).toInt := by rw [e4]
    have w4 : x4_ = L0 := by rw [e4]; exact eL0.symm
    have wt4 : x4_.toInt = L0.toInt := by rw [w4]
    refine r_icmp_le hC (tgt := 21) dX8_hill_12 (by decide) (fun c5 => ?_) (fun c5 => ?_)
    · refine r_aload_n hC dX8_hill_21 0 rfl ?_
      refine r_getr hC 1 (ci := 8) rfl u8_in (by decide) mT_2_79 dX8_hill_22 ka0 rfl rfl hte ?_
      refine r_iload_n hC dX8_hill_25 1 rfl ?_
      refine r_aload_n hC dX8_hill_26 0 rfl ?_
      refine r_getr hC 3 (ci := 8) rfl u8_in (by decide) mT_2_81 dX8_hill_27 ka0 rfl rfl hs2 ?_
      refine r_callV hC (As := [.int x1, .ref s]) (rest := []) (ci := 6) (f_X6_tellHill g (xL X) K len I J R hs te kte x1 s ks tk htk ktk tp bt hbt hkt hbb hkb nbt B x1.toInt.toNat (fun j hj => hB j (by omega)) (by omega) nr hnr knr lnr pr hpr kpr lpr ls hls kls hu (by omega) (by omega) (by omega)) mT_2_137 mT_1_3 mT_2_134 mT_2_135 mT_2_136 okX6_tellHill ⟨by decide, by decide⟩ rfl (by show kO (K te) = _; rw [kte]; rfl) rfl rfl (Nat.le_of_ble_eq_true rfl) ⟨by decide, by decide⟩ dX8_hill_30 (aI2 (F := fun st M => P g X 4 33 [(0, .ref a0), (1, .int x1)] st _ _ M) (M := (K, len, I, J, R)) fun x6_ I6 J6 h6 => ?_)
      obtain ⟨hs6, hf6, hfj6, k6_0, k6_1, k6_2⟩ := h6
      show P g X 4 33 [(0, .ref a0), (1, .int x1)] [.int x6_] _ _ (K, len, I6, J6, R)
      have hF6 : Fr K [(2, 1), (2, 4), (2, 6), (2, 8), (2, 12), (3, 0), (3, 1), (3, 2), (3, 3), (3, 4), (3, 5), (4, 0), (5, 0), (5, 1), (5, 2), (5, 3), (6, 1), (7, 3), (7, 4), (7, 5), (7, 6), (8, 1), (8, 2), (8, 3), (8, 4), (9, 12), (41, 999), (43, 999), (55, 999), (56, 999), (57, 999), (58, 999), (59, 999), (60, 999), (61, 999), (62, 999), (63, 999), (64, 999)] I I6 := hF.trans hf6 rfl rfl
      have hFJ6 : Fr K [(8, 5), (42, 999), (48, 999)] J J6 := hFJ.trans hfj6 rfl rfl
      have lvk6 : ∀ j, I6 lv j = I lv j := fun j => (hf6.get klv rfl).trans ((fun _ => rfl) j)
      have knk6 : ∀ j, I6 kn j = I kn j := fun j => (hf6.get kkn rfl).trans ((fun _ => rfl) j)
      have rwh_6 : I6 h = I h := k6_1.1 h kh nhs
      have rwlk_6 : I6 lk = I lk := k6_1.2 lk klk nls
      have ow6 : ∀ (N : Nat → Int) (D : DD), RW (CC h lk R) N D I → RW (CC h lk R) N D I6 := fun N D z => (ow0 N D z).eq fun r j a k hc => k6_2 a k (hch.1 r j a k hc) (fun r9 j9 => CC_dis hs kh klk ks kls hu nhs nls hc)
      rcases k6_0 with ⟨hr6, D6, hsp6, rep6, rwT6, hJT6, hDT6, pz6, fz6⟩ | ⟨hr6, kf6, qf6, hsp6, hf16, hf26⟩
      · obtain ⟨Q7a, eQ7a⟩ : ∃ z : Int32, z = I6 te 5 := ⟨_, rfl⟩
        obtain ⟨Q7b, eQ7b⟩ : ∃ z : Int32, z = I6 te 6 := ⟨_, rfl⟩
        have fQ7a : Q7a.toInt = (I6 te 5).toInt := by rw [eQ7a]
        have fQ7b : Q7b.toInt = (I6 te 6).toInt := by rw [eQ7b]
        refine r_istore_n hC (lv' := [(2, .int x6_), (0, .ref a0), (1, .int x1)]) dX8_hill_33 (by decide) rfl ?_
        refine r_aload_n hC dX8_hill_34 1 rfl ?_
        refine r_getr hC 0 (ci := 8) rfl u8_in (by decide) mT_2_78 dX8_hill_35 ka0 rfl rfl htp ?_
        refine r_iconst hC (v := (0)) dX8_hill_38 (by decide) (by decide) (fun x9_ e9 t9 => ?_)
        refine r_puti hC 1 (ci := 5) rfl u5_in tyX5_ok nmX5 (by decide) mT_1_38 rfl rfl rfl dX8_hill_39 hkt rfl rfl (fun I10 eI10 => ?_)
        have hs10 := hs6.put1 eI10 hkt rfl (by omega) (by omega) rfl rfl (by decide)
        have hF10 := hF6.put eI10 hkt rfl
        have rwh_10 : I10 h = I h := (funext fun j => up2_kk eI10 hkt kh (by decide)).trans rwh_6
        have rwlk_10 : I10 lk = I lk := (funext fun j => up2_kk eI10 hkt klk (by decide)).trans rwlk_6
        have rp10 := rep6.put eI10 hkt kte ks kls rfl
        have rq10 := rwT6.putO hcs eI10 hkt rfl
        have ow10 : ∀ (N : Nat → Int) (D : DD), RW (CC h lk R) N D I → RW (CC h lk R) N D I10 := fun N D z => (ow6 N D z).putO hch eI10 hkt rfl
        have lvk10 : ∀ j, I10 lv j = I lv j := fun j => (up2_kk eI10 hkt klv (by decide)).trans (lvk6 j)
        have knk10 : ∀ j, I10 kn j = I kn j := fun j => (up2_kk eI10 hkt kkn (by decide)).trans (knk6 j)
        have pz10 : (I10 ls 5).toInt = 0 := by rw [up2_kk eI10 hkt kls (by decide)]; exact pz6
        refine r_iload_n hC dX8_hill_42 0 rfl ?_
        refine r_if_ne hC (tgt := 52) dX8_hill_43 (by decide) (fun c11 => ?_) (fun c11 => ?_)
        rotate_left
        · exfalso; omega
        refine r_aload_n hC dX8_hill_52 1 rfl ?_
        refine r_getr hC 2 (ci := 8) rfl u8_in (by decide) mT_2_80 dX8_hill_53 ka0 rfl rfl hh ?_
        refine r_astore_n hC (lv' := [(3, .ref h), (2, .int x6_), (0, .ref a0), (1, .int x1)]) dX8_hill_56 (by decide) rfl ?_
        refine r_aload_n hC dX8_hill_57 2 rfl ?_
        refine r_aload_n hC dX8_hill_58 2 rfl ?_
        refine r_getr hC 3 (ci := 8) rfl u8_in (by decide) mT_2_81 dX8_hill_59 ka0 rfl rfl hs2 ?_
        refine r_putr hC 2 (ci := 8) rfl u8_in tyX8_ok nmX8 (by decide) mT_2_80 rfl rfl rfl dX8_hill_62 ka0 rfl rfl (fun R12 eR12 => ?_)
        have hs12 := hs10.putR9 eR12 ka0 (by decide) ks
        have hFR12 := hFR.put eR12 ka0 rfl
        have hbR12 : R12 a0 2 = some s := by rw [eR12, up2_self]
        have u812 := hu.put (Or.inr (Or.inl ks)) (by rw [ks]; decide) eR12
        have hx12_a0_0 : R12 a0 0 = some tp := by rw [eR12, up2_ne _ _ (Or.inr (by decide))]; exact htp
        have hx12_tp_0 : R12 tp 0 = some bt := by rw [eR12, up2_ne _ _ (Or.inl (fun z => by have h9 := hkt; rw [z, ka0] at h9; exact absurd h9 (by decide)))]; exact hbb
        have hx12_a0_1 : R12 a0 1 = some te := by rw [eR12, up2_ne _ _ (Or.inr (by decide))]; exact hte
        have hx12_te_0 : R12 te 0 = some tk := by rw [eR12, up2_ne _ _ (Or.inl (fun z => by have h9 := kte; rw [z, ka0] at h9; exact absurd h9 (by decide)))]; exact htk
        have hx12_tk_0 : R12 tk 0 = some tp := by rw [eR12, up2_ne _ _ (Or.inl (fun z => by have h9 := ktk; rw [z, ka0] at h9; exact absurd h9 (by decide)))]; exact hbt
        have hx12_te_1 : R12 te 1 = some nr := by rw [eR12, up2_ne _ _ (Or.inl (fun z => by have h9 := kte; rw [z, ka0] at h9; exact absurd h9 (by decide)))]; exact hnr
        have hx12_te_2 : R12 te 2 = some pr := by rw [eR12, up2_ne _ _ (Or.inl (fun z => by have h9 := kte; rw [z, ka0] at h9; exact absurd h9 (by decide)))]; exact hpr
        have hx12_a0_3 : R12 a0 3 = some s := by rw [eR12, up2_ne _ _ (Or.inr (by decide))]; exact hs2
        have hx12_h_0 : R12 h 0 = some lk := by rw [eR12, up2_ne _ _ (Or.inl (fun z => by have h9 := kh; rw [z, ka0] at h9; exact absurd h9 (by decide)))]; exact hlk2
        have hx12_s_0 : R12 s 0 = some ls := by rw [eR12, up2_ne _ _ (Or.inl (fun z => by have h9 := ks; rw [z, ka0] at h9; exact absurd h9 (by decide)))]; exact hls
        have hx12_a0_9 : R12 a0 9 = some rd := by rw [eR12, up2_ne _ _ (Or.inr (by decide))]; exact hrd
        have hx12_a0_4 : R12 a0 4 = some lv := by rw [eR12, up2_ne _ _ (Or.inr (by decide))]; exact hlv
        have hx12_a0_6 : R12 a0 6 = some kn := by rw [eR12, up2_ne _ _ (Or.inr (by decide))]; exact hkn
        refine r_aload_n hC dX8_hill_65 2 rfl ?_
        refine r_aload_n hC dX8_hill_66 0 rfl ?_
        refine r_putr hC 3 (ci := 8) rfl u8_in tyX8_ok nmX8 (by decide) mT_2_81 rfl rfl rfl dX8_hill_67 ka0 rfl rfl (fun R13 eR13 => ?_)
        have hs13 := hs12.putR9 eR13 ka0 (by decide) kh
        have hFR13 := hFR12.put eR13 ka0 rfl
        have hbR13 : R13 a0 3 = some h := by rw [eR13, up2_self]
        have u813 := u812.put (Or.inr (Or.inl kh)) (by rw [kh]; decide) eR13
        have hx13_a0_2 : R13 a0 2 = some s := by rw [eR13, up2_ne _ _ (Or.inr (by decide))]; exact hbR12
        have hx13_a0_0 : R13 a0 0 = some tp := by rw [eR13, up2_ne _ _ (Or.inr (by decide))]; exact hx12_a0_0
        have hx13_tp_0 : R13 tp 0 = some bt := by rw [eR13, up2_ne _ _ (Or.inl (fun z => by have h9 := hkt; rw [z, ka0] at h9; exact absurd h9 (by decide)))]; exact hx12_tp_0
        have hx13_a0_1 : R13 a0 1 = some te := by rw [eR13, up2_ne _ _ (Or.inr (by decide))]; exact hx12_a0_1
        have hx13_te_0 : R13 te 0 = some tk := by rw [eR13, up2_ne _ _ (Or.inl (fun z => by have h9 := kte; rw [z, ka0] at h9; exact absurd h9 (by decide)))]; exact hx12_te_0
        have hx13_tk_0 : R13 tk 0 = some tp := by rw [eR13, up2_ne _ _ (Or.inl (fun z => by have h9 := ktk; rw [z, ka0] at h9; exact absurd h9 (by decide)))]; exact hx12_tk_0
        have hx13_te_1 : R13 te 1 = some nr := by rw [eR13, up2_ne _ _ (Or.inl (fun z => by have h9 := kte; rw [z, ka0] at h9; exact absurd h9 (by decide)))]; exact hx12_te_1
        have hx13_te_2 : R13 te 2 = some pr := by rw [eR13, up2_ne _ _ (Or.inl (fun z => by have h9 := kte; rw [z, ka0] at h9; exact absurd h9 (by decide)))]; exact hx12_te_2
        have hx13_h_0 : R13 h 0 = some lk := by rw [eR13, up2_ne _ _ (Or.inl (fun z => by have h9 := kh; rw [z, ka0] at h9; exact absurd h9 (by decide)))]; exact hx12_h_0
        have hx13_s_0 : R13 s 0 = some ls := by rw [eR13, up2_ne _ _ (Or.inl (fun z => by have h9 := ks; rw [z, ka0] at h9; exact absurd h9 (by decide)))]; exact hx12_s_0
        have hx13_a0_9 : R13 a0 9 = some rd := by rw [eR13, up2_ne _ _ (Or.inr (by decide))]; exact hx12_a0_9
        have hx13_a0_4 : R13 a0 4 = some lv := by rw [eR13, up2_ne _ _ (Or.inr (by decide))]; exact hx12_a0_4
        have hx13_a0_6 : R13 a0 6 = some kn := by rw [eR13, up2_ne _ _ (Or.inr (by decide))]; exact hx12_a0_6
        refine r_aload_n hC dX8_hill_70 2 rfl ?_
        refine r_getr hC 9 (ci := 8) rfl u8_in (by decide) mT_2_87 dX8_hill_71 ka0 rfl rfl hx13_a0_9 ?_
        refine r_iconst hC (v := (0)) dX8_hill_74 (by decide) (by decide) (fun x14_ e14 t14 => ?_)
        refine r_puti hC 0 (ci := 3) rfl u3_in tyX3_ok nmX3 (by decide) mT_2_61 rfl rfl rfl dX8_hill_75 krd rfl rfl (fun I15 eI15 => ?_)
        have hs15 := hs13.put1 eI15 krd rfl (by omega) (by omega) rfl rfl (by decide)
        have hF15 := hF10.put eI15 krd rfl
        have rwh_15 : I15 h = I h := (funext fun j => up2_kk eI15 krd kh (by decide)).trans rwh_10
        have rwlk_15 : I15 lk = I lk := (funext fun j => up2_kk eI15 krd klk (by decide)).trans rwlk_10
        have rp15 := rp10.put eI15 krd kte ks kls rfl
        have rq15 := rq10.putO hcs eI15 krd rfl
        have ow15 : ∀ (N : Nat → Int) (D : DD), RW (CC h lk R) N D I → RW (CC h lk R) N D I15 := fun N D z => (ow10 N D z).putO hch eI15 krd rfl
        have lvk15 : ∀ j, I15 lv j = I lv j := fun j => (up2_kk eI15 krd klv (by decide)).trans (lvk10 j)
        have knk15 : ∀ j, I15 kn j = I kn j := fun j => (up2_kk eI15 krd kkn (by decide)).trans (knk10 j)
        have pz15 : (I15 ls 5).toInt = 0 := by rw [up2_kk eI15 krd kls (by decide)]; exact pz10
        refine r_aload_n hC dX8_hill_78 2 rfl ?_
        refine r_callV hC (As := []) (rest := []) (ci := 8) (f_X8_planAnew g (xL X) K len I15 J6 R13 hs15 a0 ka0 s hx13_a0_2 ks ls hx13_s_0 kls u813 D6 hJT6 (rq15.cR hs ks kls hFR13 rfl) rp15.1.2.1 rp15.1.2.2.1 rp15.1.2.2.2.1 rp15.1.2.2.2.2.1 lv hx13_a0_4 klv llv kn hx13_a0_6 kkn lkn) mT_3_97 mT_1_1 mT_3_94 mT_3_96 mP_18 okX8_planAnew ⟨by decide, by decide⟩ rfl (by show kO (K a0) = _; rw [ka0]; rfl) rfl rfl (Nat.le_of_ble_eq_true rfl) ⟨by decide, by decide⟩ dX8_hill_79 (aV1 (F := fun st M => P g X 4 82 [(3, .ref h), (2, .int x6_), (0, .ref a0), (1, .int x1)] st _ _ M) (M := (K, len, I15, J6, R13)) fun I16 h16 => ?_)
        obtain ⟨hs16, hf16, k16_0, k16_1⟩ := h16
        show P g X 4 82 [(3, .ref h), (2, .int x6_), (0, .ref a0), (1, .int x1)] [] _ _ (K, len, I16, J6, R13)
        have hF16 : Fr K [(2, 1), (2, 4), (2, 6), (2, 8), (2, 12), (3, 0), (3, 1), (3, 2), (3, 3), (3, 4), (3, 5), (4, 0), (5, 0), (5, 1), (5, 2), (5, 3), (6, 1), (7, 3), (7, 4), (7, 5), (7, 6), (8, 1), (8, 2), (8, 3), (8, 4), (9, 12), (41, 999), (43, 999), (55, 999), (56, 999), (57, 999), (58, 999), (59, 999), (60, 999), (61, 999), (62, 999), (63, 999), (64, 999)] I I16 := hF15.trans hf16 rfl rfl
        have rwh_16 : I16 h = I h := (funext fun j => hf16.get kh rfl).trans rwh_15
        have rwlk_16 : I16 lk = I lk := (funext fun j => hf16.get klk rfl).trans rwlk_15
        have rp16 := rp15.mvI hf16 kte ks kls rfl
        have rq16 := rq15.mv hcs qC_big hf16 rfl
        have ow16 : ∀ (N : Nat → Int) (D : DD), RW (CC h lk R) N D I → RW (CC h lk R) N D I16 := fun N D z => (ow15 N D z).mv hch qC_big hf16 rfl
        have pz16 : (I16 ls 5).toInt = 0 := by rw [hf16.get kls rfl]; exact pz15
        have hst : (I16 s 6).toInt = D6 0 7 := rp16.1.2.2.2.2.2.2.2.1
        refine r_aload_n hC dX8_hill_82 2 rfl ?_
        refine r_aload_n hC dX8_hill_83 2 rfl ?_
        refine r_getr hC 2 (ci := 8) rfl u8_in (by decide) mT_2_80 dX8_hill_84 ka0 rfl rfl hx13_a0_2 ?_
        refine r_geti hC 6 (ci := 1) rfl u1_in (by decide) mT_1_202 dX8_hill_87 ks rfl rfl (fun x17_ e17 => ?_)
        have r17 := hs16.rng ks rfl e17
        have f17 : x17_.toInt = (I16 s 6).toInt := by rw [e17]
        refine r_callV hC (As := [.int x17_]) (rest := []) (ci := 8) (c_X8_answer g (xL X) K len I16 J6 R13 hs16 a0 ka0 x17_) mT_3_115 mT_1_1 mT_3_112 mT_3_114 mP_21 okX8_answer ⟨by decide, by decide⟩ rfl (by show kO (K a0) = _; rw [ka0]; rfl) rfl rfl (Nat.le_of_ble_eq_true rfl) ⟨by decide, by decide⟩ dX8_hill_90 (aI1 (F := fun st M => P g X 4 93 [(3, .ref h), (2, .int x6_), (0, .ref a0), (1, .int x1)] st _ _ M) (M := (K, len, I16, J6, R13)) fun x18_ I18 h18 => ?_)
        obtain ⟨hs18, hf18, k18_0, k18_1⟩ := h18
        show P g X 4 93 [(3, .ref h), (2, .int x6_), (0, .ref a0), (1, .int x1)] [.int x18_] _ _ (K, len, I18, J6, R13)
        have hF18 : Fr K [(2, 1), (2, 4), (2, 6), (2, 8), (2, 12), (3, 0), (3, 1), (3, 2), (3, 3), (3, 4), (3, 5), (4, 0), (5, 0), (5, 1), (5, 2), (5, 3), (6, 1), (7, 3), (7, 4), (7, 5), (7, 6), (8, 1), (8, 2), (8, 3), (8, 4), (9, 12), (41, 999), (43, 999), (55, 999), (56, 999), (57, 999), (58, 999), (59, 999), (60, 999), (61, 999), (62, 999), (63, 999), (64, 999)] I I18 := hF16.trans hf18 rfl rfl
        have lvr18 := k16_0.mv hf18 klv (fun _ => rfl)
        have knz18 : ∀ j : Nat, j < 6 → (I18 kn j).toInt = 0 := fun j hj => by rw [hf18.get kkn rfl]; exact k16_1 j hj
        have rwh_18 : I18 h = I h := (funext fun j => hf18.get kh rfl).trans rwh_16
        have rwlk_18 : I18 lk = I lk := (funext fun j => hf18.get klk rfl).trans rwlk_16
        have rp18 := rp16.mvI hf18 kte ks kls rfl
        have rq18 := rq16.mv hcs qC_big hf18 rfl
        have ow18 : ∀ (N : Nat → Int) (D : DD), RW (CC h lk R) N D I → RW (CC h lk R) N D I18 := fun N D z => (ow16 N D z).mv hch qC_big hf18 rfl
        have pz18 : (I18 ls 5).toInt = 0 := by rw [hf18.get kls rfl]; exact pz16
        have hv1 : I18 tp 1 = x9_ := (Eq.trans (hf18.get hkt rfl) (Eq.trans (hf16.get hkt rfl) (Eq.trans (up2_kk eI15 krd hkt (by decide)) (by rw [eI10]; exact up2_self _ _ _ _))))
        have hv1t : (I18 tp 1).toInt = x9_.toInt := congrArg Int32.toInt hv1
        have hv5 : I18 te 5 = Q7a := (Eq.trans (hf18.get kte rfl) (Eq.trans (hf16.get kte rfl) (Eq.trans (up2_kk eI15 krd kte (by decide)) (Eq.trans (up2_kk eI10 hkt kte (by decide)) eQ7a.symm))))
        have hv5t : (I18 te 5).toInt = Q7a.toInt := congrArg Int32.toInt hv5
        have hv6 : I18 te 6 = Q7b := (Eq.trans (hf18.get kte rfl) (Eq.trans (hf16.get kte rfl) (Eq.trans (up2_kk eI15 krd kte (by decide)) (Eq.trans (up2_kk eI10 hkt kte (by decide)) eQ7b.symm))))
        have hv6t : (I18 te 6).toInt = Q7b.toInt := congrArg Int32.toInt hv6
        have hvC : I18 rd 0 = x14_ := (Eq.trans (hf18.get krd rfl) (Eq.trans (hf16.get krd rfl) (by rw [eI15]; exact up2_self _ _ _ _)))
        have hvCt : (I18 rd 0).toInt = x14_.toInt := congrArg Int32.toInt hvC
        exact r_iret hC hQ hlk hr rfl (by decide) (by decide) dX8_hill_93 ⟨_, _, _, _, rfl, rfl, ⟨hs18, hF18, hFJ6, hFR13, (by first | exact Or.inl ⟨by omega, by omega, by omega, hf18, rfl, hx13_a0_2, hbR13⟩ | exact Or.inr (Or.inl ⟨by omega, kf6, qf6, hsp6, by omega, by omega, by omega, by omega, by omega, rwh_18, rwlk_18, by omega, ow18, NOlvk, rfl, hx13_a0_2, hbR13⟩) | exact Or.inr (Or.inr ⟨by omega, D6, hsp6, by have h9 := congrArg Int32.toInt k18_0; omega, by omega, by omega, by omega, rp18, rq18.cR hs ks kls hFR13 rfl, hJT6, hDT6, lvr18, knz18, pz18, by omega, hx13_a0_2, hbR13⟩)), (by exact u813)⟩⟩
      · obtain ⟨Q8a, eQ8a⟩ : ∃ z : Int32, z = I6 te 5 := ⟨_, rfl⟩
        obtain ⟨Q8b, eQ8b⟩ : ∃ z : Int32, z = I6 te 6 := ⟨_, rfl⟩
        have fQ8a : Q8a.toInt = (I6 te 5).toInt := by rw [eQ8a]
        have fQ8b : Q8b.toInt = (I6 te 6).toInt := by rw [eQ8b]
        refine r_istore_n hC (lv' := [(2, .int x6_), (0, .ref a0), (1, .int x1)]) dX8_hill_33 (by decide) rfl ?_
        refine r_aload_n hC dX8_hill_34 1 rfl ?_
        refine r_getr hC 0 (ci := 8) rfl u8_in (by decide) mT_2_78 dX8_hill_35 ka0 rfl rfl htp ?_
        refine r_iconst hC (v := (0)) dX8_hill_38 (by decide) (by decide) (fun x19_ e19 t19 => ?_)
        refine r_puti hC 1 (ci := 5) rfl u5_in tyX5_ok nmX5 (by decide) mT_1_38 rfl rfl rfl dX8_hill_39 hkt rfl rfl (fun I20 eI20 => ?_)
        have hs20 := hs6.put1 eI20 hkt rfl (by omega) (by omega) rfl rfl (by decide)
        have hF20 := hF6.put eI20 hkt rfl
        have rwh_20 : I20 h = I h := (funext fun j => up2_kk eI20 hkt kh (by decide)).trans rwh_6
        have rwlk_20 : I20 lk = I lk := (funext fun j => up2_kk eI20 hkt klk (by decide)).trans rwlk_6
        have ow20 : ∀ (N : Nat → Int) (D : DD), RW (CC h lk R) N D I → RW (CC h lk R) N D I20 := fun N D z => (ow6 N D z).putO hch eI20 hkt rfl
        have lvk20 : ∀ j, I20 lv j = I lv j := fun j => (up2_kk eI20 hkt klv (by decide)).trans (lvk6 j)
        have knk20 : ∀ j, I20 kn j = I kn j := fun j => (up2_kk eI20 hkt kkn (by decide)).trans (knk6 j)
        refine r_iload_n hC dX8_hill_42 0 rfl ?_
        refine r_if_ne hC (tgt := 52) dX8_hill_43 (by decide) (fun c21 => ?_) (fun c21 => ?_)
        · exfalso; omega
        refine r_aload_n hC dX8_hill_46 1 rfl ?_
        refine r_iconst hC (v := (4)) dX8_hill_47 (by decide) (by decide) (fun x22_ e22 t22 => ?_)
        refine r_callV hC (As := [.int x22_]) (rest := []) (ci := 8) (c_X8_refuse g (xL X) K len I20 J6 R hs20 a0 ka0 x22_) mT_2_133 mT_1_1 mT_2_130 mT_2_132 mP_0 okX8_refuse ⟨by decide, by decide⟩ rfl (by show kO (K a0) = _; rw [ka0]; rfl) rfl rfl (Nat.le_of_ble_eq_true rfl) ⟨by decide, by decide⟩ dX8_hill_48 (aI1 (F := fun st M => P g X 4 51 [(2, .int x6_), (0, .ref a0), (1, .int x1)] st _ _ M) (M := (K, len, I20, J6, R)) fun x23_ I23 h23 => ?_)
        obtain ⟨hs23, hf23, k23_0, k23_1⟩ := h23
        show P g X 4 51 [(2, .int x6_), (0, .ref a0), (1, .int x1)] [.int x23_] _ _ (K, len, I23, J6, R)
        have hF23 : Fr K [(2, 1), (2, 4), (2, 6), (2, 8), (2, 12), (3, 0), (3, 1), (3, 2), (3, 3), (3, 4), (3, 5), (4, 0), (5, 0), (5, 1), (5, 2), (5, 3), (6, 1), (7, 3), (7, 4), (7, 5), (7, 6), (8, 1), (8, 2), (8, 3), (8, 4), (9, 12), (41, 999), (43, 999), (55, 999), (56, 999), (57, 999), (58, 999), (59, 999), (60, 999), (61, 999), (62, 999), (63, 999), (64, 999)] I I23 := hF20.trans hf23 rfl rfl
        have lvk23 : ∀ j, I23 lv j = I lv j := fun j => (hf23.get klv rfl).trans (lvk20 j)
        have knk23 : ∀ j, I23 kn j = I kn j := fun j => (hf23.get kkn rfl).trans (knk20 j)
        have rwh_23 : I23 h = I h := (funext fun j => hf23.get kh rfl).trans rwh_20
        have rwlk_23 : I23 lk = I lk := (funext fun j => hf23.get klk rfl).trans rwlk_20
        have ow23 : ∀ (N : Nat → Int) (D : DD), RW (CC h lk R) N D I → RW (CC h lk R) N D I23 := fun N D z => (ow20 N D z).mv hch qC_big hf23 rfl
        have hv1 : I23 tp 1 = x19_ := (Eq.trans (hf23.get hkt rfl) (by rw [eI20]; exact up2_self _ _ _ _))
        have hv1t : (I23 tp 1).toInt = x19_.toInt := congrArg Int32.toInt hv1
        have hv5 : I23 te 5 = Q8a := (Eq.trans (hf23.get kte rfl) (Eq.trans (up2_kk eI20 hkt kte (by decide)) eQ8a.symm))
        have hv5t : (I23 te 5).toInt = Q8a.toInt := congrArg Int32.toInt hv5
        have hv6 : I23 te 6 = Q8b := (Eq.trans (hf23.get kte rfl) (Eq.trans (up2_kk eI20 hkt kte (by decide)) eQ8b.symm))
        have hv6t : (I23 te 6).toInt = Q8b.toInt := congrArg Int32.toInt hv6
        have hvC : I23 rd 0 = C0 := (Eq.trans (hf23.get krd rfl) (Eq.trans (up2_kk eI20 hkt krd (by decide)) (Eq.trans (hf6.get krd rfl) eC0.symm)))
        have hvCt : (I23 rd 0).toInt = C0.toInt := congrArg Int32.toInt hvC
        exact r_iret hC hQ hlk hr rfl (by decide) (by decide) dX8_hill_51 ⟨_, _, _, _, rfl, rfl, ⟨hs23, hF23, hFJ6, hFR, (by first | exact Or.inl ⟨by omega, by omega, by omega, hf23, rfl, hh, hs2⟩ | exact Or.inr (Or.inl ⟨by omega, kf6, qf6, hsp6, by omega, by omega, by omega, by omega, by omega, rwh_23, rwlk_23, by omega, ow23, lvk23, knk23, rfl, hh, hs2⟩) | exact Or.inr (Or.inr ⟨by omega, D6, hsp6, by have h9 := congrArg Int32.toInt k23_0; omega, by omega, by omega, by omega, NOrep, NOrw8.cR hs ks kls hFR rfl, hJT6, hDT6, NOlvr, NOpz, by omega, hh, hs2⟩)), (by exact hu)⟩⟩
    · refine r_aload_n hC dX8_hill_15 0 rfl ?_
      refine r_iconst hC (v := (2)) dX8_hill_16 (by decide) (by decide) (fun x24_ e24 t24 => ?_)
      refine r_callV hC (As := [.int x24_]) (rest := []) (ci := 8) (c_X8_refuse g (xL X) K len I J R hs a0 ka0 x24_) mT_2_133 mT_1_1 mT_2_130 mT_2_132 mP_0 okX8_refuse ⟨by decide, by decide⟩ rfl (by show kO (K a0) = _; rw [ka0]; rfl) rfl rfl (Nat.le_of_ble_eq_true rfl) ⟨by decide, by decide⟩ dX8_hill_17 (aI1 (F := fun st M => P g X 4 20 [(0, .ref a0), (1, .int x1)] st _ _ M) (M := (K, len, I, J, R)) fun x25_ I25 h25 => ?_)
      obtain ⟨hs25, hf25, k25_0, k25_1⟩ := h25
      show P g X 4 20 [(0, .ref a0), (1, .int x1)] [.int x25_] _ _ (K, len, I25, J, R)
      have hF25 : Fr K [(2, 1), (2, 4), (2, 6), (2, 8), (2, 12), (3, 0), (3, 1), (3, 2), (3, 3), (3, 4), (3, 5), (4, 0), (5, 0), (5, 1), (5, 2), (5, 3), (6, 1), (7, 3), (7, 4), (7, 5), (7, 6), (8, 1), (8, 2), (8, 3), (8, 4), (9, 12), (41, 999), (43, 999), (55, 999), (56, 999), (57, 999), (58, 999), (59, 999), (60, 999), (61, 999), (62, 999), (63, 999), (64, 999)] I I25 := hF.trans hf25 rfl rfl
      have lvk25 : ∀ j, I25 lv j = I lv j := fun j => (hf25.get klv rfl).trans ((fun _ => rfl) j)
      have knk25 : ∀ j, I25 kn j = I kn j := fun j => (hf25.get kkn rfl).trans ((fun _ => rfl) j)
      have rwh_25 : I25 h = I h := (funext fun j => hf25.get kh rfl).trans rfl
      have rwlk_25 : I25 lk = I lk := (funext fun j => hf25.get klk rfl).trans rfl
      have ow25 : ∀ (N : Nat → Int) (D : DD), RW (CC h lk R) N D I → RW (CC h lk R) N D I25 := fun N D z => (ow0 N D z).mv hch qC_big hf25 rfl
      have hv1 : I25 tp 1 = x4_ := (Eq.trans (hf25.get hkt rfl) e4.symm)
      have hv1t : (I25 tp 1).toInt = x4_.toInt := congrArg Int32.toInt hv1
      have hv5 : I25 te 5 = F0 := (Eq.trans (hf25.get kte rfl) eF0.symm)
      have hv5t : (I25 te 5).toInt = F0.toInt := congrArg Int32.toInt hv5
      have hv6 : I25 te 6 = Q0 := (Eq.trans (hf25.get kte rfl) eQ0.symm)
      have hv6t : (I25 te 6).toInt = Q0.toInt := congrArg Int32.toInt hv6
      have hvC : I25 rd 0 = C0 := (Eq.trans (hf25.get krd rfl) eC0.symm)
      have hvCt : (I25 rd 0).toInt = C0.toInt := congrArg Int32.toInt hvC
      exact r_iret hC hQ hlk hr rfl (by decide) (by decide) dX8_hill_20 ⟨_, _, _, _, rfl, rfl, ⟨hs25, hF25, hFJ, hFR, (by first | exact Or.inl ⟨by omega, by omega, by omega, hf25, rfl, hh, hs2⟩ | exact Or.inr (Or.inl ⟨by omega, kf0, qf0, hsp0, by omega, by omega, by omega, by omega, by omega, rwh_25, rwlk_25, by omega, ow25, lvk25, knk25, rfl, hh, hs2⟩) | exact Or.inr (Or.inr ⟨by omega, D0, hsp0, by have h9 := congrArg Int32.toInt k25_0; omega, by omega, by omega, by omega, NOrep, NOrw8.cR hs ks kls hFR rfl, hJT0, hDT0, NOlvr, NOpz, by omega, hh, hs2⟩)), (by exact hu)⟩⟩

