set_option maxHeartbeats 4000000 in
set_option maxRecDepth 100000 in
theorem law_6 {g : GG} {X : XT} {b L : Nat} {xs : Nat → Int32} (hX : LX g X b L xs) {x m o tp bt te tk nr pr rd mt cn sn : Nat} {i : Int32} {K len : Nat → Nat} {I : Nat → Nat → Int32} {J : Nat → Nat → Int64} {R : Nat → Nat → Option Nat} (hI : LI x m o tp bt te tk nr pr rd mt K len I R) (hi : 0 ≤ i.toInt) (hiL : i.toInt + 6 ≤ L) (hcn : cn + 18 ≤ 601024) (hsn : sn + 231 ≤ 7293034) (kk : ∀ K' len' I' J' R', LI x m o tp bt te tk nr pr rd mt K' len' I' R' → P g X 7 1253 [(0, .ref b), (1, .ref x), (2, .ref m), (3, .ref o), (4, .int i)] [] (cn + 18) (sn + 231) (K', len', I', J', R')) : P g X 7 378 [(0, .ref b), (1, .ref x), (2, .ref m), (3, .ref o), (4, .int i)] [] cn sn (K, len, I, J, R) := by
  obtain ⟨hC, hcs, hl, hXs, hb, hbA, hL⟩ := hX
  obtain ⟨hs, la, ⟨h, s, lk, ls, lh, lr, lc⟩, lb, lv⟩ := id hI
  obtain ⟨hu, DA, lcb, EA, kc, rdm⟩ := id lc
  obtain ⟨rwd, scd, lcm⟩ := id lcb
  obtain ⟨sd1, sd2, sd3, sd4, sd5, sd7, sd8, sd9⟩ := id scd
  obtain ⟨kx, km, ⟨ko, no⟩, ⟨htp, ktp⟩, ⟨hbb, kbt, nbt⟩, ⟨hte, kte⟩, ⟨htk, ktk⟩, hbt, ⟨hnr, knr, lnr⟩, ⟨hpr, kpr, lpr⟩, ⟨hrd, krd⟩, ⟨hmt, kmt, nmt⟩⟩ := id la
  obtain ⟨⟨hh, kh⟩, ⟨hs2, ks⟩, ⟨hlk2, klk⟩, ⟨hls, kls⟩, nhs, nls⟩ := id lh
  obtain ⟨lv1, lv2, lv3, lv4⟩ := id lv
  obtain ⟨lw, hlw, klw, llw⟩ := hs.row kx 4 41 60 (by decide) (by decide)
  obtain ⟨kn, hkn, kkn, lkn⟩ := hs.row kx 6 43 6 (by decide) (by decide)
  obtain ⟨cr, hcr, kcr1, lcr⟩ := hs.row kx 5 44 6 (by decide) (by decide)
  have ka : KA x h lk rd K len R := ⟨⟨_, hs⟩, hu, kx, kh, klk, krd⟩
  have rdb9 := hs.rng krd (k := 0) rfl (x := I rd 0) rfl
  obtain ⟨tl, htl, ktl, ltl⟩ := hs.row kx 7 41 60 (by decide) (by decide)
  obtain ⟨lrw, hlrw, klrw, llrw⟩ := hs.row km 15 85 60 (by decide) (by decide)
  have nlt : lw ≠ tl := hu.ne hlw htl (by rw [klw]; decide) (Or.inr (by decide))
  refine r_aload_n hC dL_law_378 1 rfl ?_
  refine r_callV hC (As := []) (rest := []) (ci := 8) (n_X8_undo g (xL X) K len I J R hs x kx  h hh kh lk hlk2 klk hu DA rwd sd4 sd1 sd2 sd3 lw hlw klw llw kn hkn kkn lkn (fun z => by rcases lr.2 with ⟨r3, n1, n2, n3, n4, n5, n6, n7, n8, n9, nr0⟩ | ⟨hm, r3, -⟩; omega; exact (lcm hm r3).2.1)) mT_3_143 mT_1_1 mT_3_140 mT_3_141 mT_3_142 okX8_undo ⟨by decide, by decide⟩ rfl (by show kO (K x) = _; rw [kx]; rfl) rfl rfl (Nat.le_of_ble_eq_true rfl) ⟨Nat.le_trans (show cn + 0 ≤ cn + 18 from Nat.add_le_add_left (by decide) cn) hcn, Nat.le_trans (show sn + 0 ≤ sn + 231 from Nat.add_le_add_left (by decide) sn) hsn⟩ dL_law_379 (aI1 (F := fun st M => P g X 7 382 [(0, .ref b), (1, .ref x), (2, .ref m), (3, .ref o), (4, .int i)] st _ _ M) (M := (K, len, I, J, R)) fun x1_ I1 h1 => ?_)
  obtain ⟨hs1, hf1, k1_0, k1_1, k1_2, k1_3, k1_4⟩ := h1
  show P g X 7 382 [(0, .ref b), (1, .ref x), (2, .ref m), (3, .ref o), (4, .int i)] [.int x1_] cn sn (K, len, I1, J, R)
  refine r_pop hC dL_law_382 rfl ?_
  refine r_aload_n hC dL_law_383 2 rfl ?_
  refine r_callV hC (As := []) (rest := []) (ci := 10) (f_X10_undo g (xL X) K len I1 J R hs1 m km  DA (fun hm z => by obtain ⟨z1, z2, z3, z4, z5⟩ := lcm hm z; exact ⟨z3.mv (CM_x hs z1) qM_big hf1 rfl, by rw [hf1.get z1 rfl]; exact z4.2.2.2.1⟩)) mT_6_111 mT_1_10 mT_6_108 mT_6_109 mT_6_110 okX10_undo ⟨by decide, by decide⟩ rfl (by show kO (K m) = _; rw [km]; rfl) rfl rfl (Nat.le_of_ble_eq_true rfl) ⟨Nat.le_trans (show cn + 0 ≤ cn + 18 from Nat.add_le_add_left (by decide) cn) hcn, Nat.le_trans (show sn + 0 ≤ sn + 231 from Nat.add_le_add_left (by decide) sn) hsn⟩ dL_law_384 (aI1 (F := fun st M => P g X 7 387 [(0, .ref b), (1, .ref x), (2, .ref m), (3, .ref o), (4, .int i)] st _ _ M) (M := (K, len, I1, J, R)) fun x2_ I2 h2 => ?_)
  obtain ⟨hs2, hf2, k2_0, k2_1, k2_2⟩ := h2
  show P g X 7 387 [(0, .ref b), (1, .ref x), (2, .ref m), (3, .ref o), (4, .int i)] [.int x2_] cn sn (K, len, I2, J, R)
  have lbv := LBV.ref la lb lv hf1 hf2 rfl rfl rfl k1_4 k2_2
  have t_h1 : (I2 h 1).toInt = (I h 1).toInt := congrArg Int32.toInt ((hf2.get kh rfl).trans (hf1.get kh rfl))
  have t_h4 : (I2 h 4).toInt = (I h 4).toInt := congrArg Int32.toInt ((hf2.get kh rfl).trans (hf1.get kh rfl))
  have t_h6 : (I2 h 6).toInt = (I h 6).toInt := congrArg Int32.toInt ((hf2.get kh rfl).trans (hf1.get kh rfl))
  have t_h8 : (I2 h 8).toInt = (I h 8).toInt := congrArg Int32.toInt ((hf2.get kh rfl).trans (hf1.get kh rfl))
  have t_h12 : (I2 h 12).toInt = (I h 12).toInt := congrArg Int32.toInt ((hf2.get kh rfl).trans (hf1.get kh rfl))
  have t_lk1 : (I2 lk 1).toInt = (I lk 1).toInt := congrArg Int32.toInt ((hf2.get klk rfl).trans (hf1.get klk rfl))
  have t_lk3 : (I2 lk 3).toInt = (I lk 3).toInt := congrArg Int32.toInt ((hf2.get klk rfl).trans (hf1.get klk rfl))
  have t_lk4 : (I2 lk 4).toInt = (I1 lk 4).toInt := congrArg Int32.toInt (hf2.get klk rfl)
  have t_lk5 : (I2 lk 5).toInt = (I1 lk 5).toInt := congrArg Int32.toInt (hf2.get klk rfl)
  have t_rd0 : (I2 rd 0).toInt = (I rd 0).toInt := congrArg Int32.toInt ((hf2.get krd rfl).trans (hf1.get krd rfl))
  have t_m20 : (I2 m 20).toInt = (I m 20).toInt := congrArg Int32.toInt ((hf2.get km rfl).trans (hf1.get km rfl))
  rcases lr.2 with ⟨r3, n1, n2, n3, n4, n5, n6, n7, n8, n9, nr0⟩ | ⟨hm, r3, khm, m0, m1, m2, m3, m4, m5, m6, m7, m8, m9⟩
  · have pq := k2_0
    rcases pq with ⟨-, pq⟩ | ⟨hm9, z9, -⟩
    rotate_left
    · rw [r3] at z9; cases z9
    have ip := int_undoN n9 k1_0
    have lrn : LR h lk rd m K I2 R := ⟨t_rd0.trans (lr.1.trans t_m20.symm), Or.inl ⟨r3, t_h1.trans n1, t_h4.trans n2, t_h6.trans n3, t_h8.trans n4, t_h12.trans n5, t_lk1.trans n6, t_lk3.trans n7, t_lk4.trans (ip.2.1.trans n8), t_lk5.trans (ip.2.2.trans n9), t_rd0.trans nr0⟩⟩
    have lcn : LC x h lk rd m K I2 R := by
      by_cases hc8 : 0 < (I lk 5).toInt
      · have hDD : ∀ k, k ≠ 4 → (upD DA 0 4 (DA 0 4 - 1)) 0 k = DA 0 k := fun k hk => by simp [upD, hk]
        have lcb2 : LCb x h lk m (upD DA 0 4 (DA 0 4 - 1)) K I2 R := by
          refine LCb.step hs kh klk hu scd hf1 hf2 rfl rfl rfl (fun _ => rfl) (fun _ => rfl) (fun _ => rfl) (fun _ => rfl) rfl rfl rfl rfl rfl rfl rfl rfl kx (fun _ => rfl) (D' := (upD DA 0 4 (DA 0 4 - 1))) hDD (k1_1.1 hc8) (by have h9 := k1_0; have h8 := sd4; rw [upD_s]; omega) (fun hm9 z9 => ?_)
          rw [r3] at z9; cases z9
        exact ⟨hu, (upD DA 0 4 (DA 0 4 - 1)), lcb2, EA, KC.re kc (hDD 5 (by decide)) (hDD 6 (by decide)) (hDD 7 (by decide)) lcb2.1 lcb2.2.1 (fun z7 => ⟨dj_u4 (kc.2.2.1 z7).1, fun l2 zl => by rw [hlw] at zl; cases zl; exact (k1_2.1 hc8).eq (fun j => hf2.get klw rfl)⟩) (KN_0 (fun kn2 zl j hj => by rw [hkn] at zl; cases zl; rw [hf2.get kkn rfl]; exact k1_3.1 hc8 j hj)) (by rw [hf2.get krd rfl, hf1.get krd rfl]) (fun b2 k z => (Fr.rrow hf2 hs krd rfl b2 k z).trans (Fr.rrow hf1 hs krd rfl b2 k z)), (rdm.mv hs km hf1 rfl).mv hs km hf2 rfl⟩
      · have hDD : ∀ k, k ≠ 4 → DA 0 k = DA 0 k := fun k hk => rfl
        have lcb2 : LCb x h lk m DA K I2 R := by
          refine LCb.step hs kh klk hu scd hf1 hf2 rfl rfl rfl (fun _ => rfl) (fun _ => rfl) (fun _ => rfl) (fun _ => rfl) rfl rfl rfl rfl rfl rfl rfl rfl kx (fun _ => rfl) (D' := DA) hDD (k1_1.2 hc8) (by have h9 := k1_0; have h8 := sd4; omega) (fun hm9 z9 => ?_)
          rw [r3] at z9; cases z9
        exact ⟨hu, DA, lcb2, EA, KC.re kc (hDD 5 (by decide)) (hDD 6 (by decide)) (hDD 7 (by decide)) lcb2.1 lcb2.2.1 (fun z7 => ⟨(kc.2.2.1 z7).1, fun l2 zl => by rw [hlw] at zl; cases zl; exact ((kc.2.2.1 z7).2.2 lw hlw).eq (fun j => (hf2.get klw rfl).trans (k1_2.2 hc8 j))⟩) (KN.eq kc.2.2.2.1 ka (fun b2 k z => (Fr.crs hf2 rfl b2 k z).trans (Fr.crs hf1 rfl b2 k z)) (fun kn2 zl j => by rw [hkn] at zl; cases zl; exact (hf2.get kkn rfl).trans (k1_3.2 hc8 j))) (by rw [hf2.get krd rfl, hf1.get krd rfl]) (fun b2 k z => (Fr.rrow hf2 hs krd rfl b2 k z).trans (Fr.rrow hf1 hs krd rfl b2 k z)), (rdm.mv hs km hf1 rfl).mv hs km hf2 rfl⟩
    have eqv : x1_.toInt = x2_.toInt := ip.1.trans pq.symm
    refine r_pop hC dL_law_387 rfl ?_
    refine r_goto hC (tgt := 1253) dL_law_388 (by decide) ?_
    refine r_sub [0, 1, 2, 3, 4] rfl ?_
    refine r_widen hC (k2 := cn + 18) (n2 := sn + 231) (Nat.le_add_right _ _) (Nat.le_add_right _ _) ?_
    exact kk K len I2 J R ⟨hs2, la, ⟨h, s, lk, ls, lh, lrn, lcn⟩, lbv⟩
  · have pq := k2_0
    rcases pq with ⟨z9, -⟩ | ⟨hm9, z9, pq⟩
    · rw [r3] at z9; cases z9
    rw [r3] at z9; cases z9
    have t_h1 : (I2 h 1).toInt = (I h 1).toInt := congrArg Int32.toInt ((hf2.get kh rfl).trans (hf1.get kh rfl))
    have t_h4 : (I2 h 4).toInt = (I h 4).toInt := congrArg Int32.toInt ((hf2.get kh rfl).trans (hf1.get kh rfl))
    have t_h6 : (I2 h 6).toInt = (I h 6).toInt := congrArg Int32.toInt ((hf2.get kh rfl).trans (hf1.get kh rfl))
    have t_h8 : (I2 h 8).toInt = (I h 8).toInt := congrArg Int32.toInt ((hf2.get kh rfl).trans (hf1.get kh rfl))
    have t_h12 : (I2 h 12).toInt = (I h 12).toInt := congrArg Int32.toInt ((hf2.get kh rfl).trans (hf1.get kh rfl))
    have t_lk1 : (I2 lk 1).toInt = (I lk 1).toInt := congrArg Int32.toInt ((hf2.get klk rfl).trans (hf1.get klk rfl))
    have t_lk3 : (I2 lk 3).toInt = (I lk 3).toInt := congrArg Int32.toInt ((hf2.get klk rfl).trans (hf1.get klk rfl))
    have t_lk4 : (I2 lk 4).toInt = (I1 lk 4).toInt := congrArg Int32.toInt (hf2.get klk rfl)
    have t_lk5 : (I2 lk 5).toInt = (I1 lk 5).toInt := congrArg Int32.toInt (hf2.get klk rfl)
    have t_rd0 : (I2 rd 0).toInt = (I rd 0).toInt := congrArg Int32.toInt ((hf2.get krd rfl).trans (hf1.get krd rfl))
    have t_m20 : (I2 m 20).toInt = (I m 20).toInt := congrArg Int32.toInt ((hf2.get km rfl).trans (hf1.get km rfl))
    have t_hm0 : (I2 hm 0).toInt = (I hm 0).toInt := congrArg Int32.toInt ((hf2.get khm rfl).trans (hf1.get khm rfl))
    have t_hm2 : (I2 hm 2).toInt = (I hm 2).toInt := congrArg Int32.toInt ((hf2.get khm rfl).trans (hf1.get khm rfl))
    have t_hm3 : (I2 hm 3).toInt = (I hm 3).toInt := congrArg Int32.toInt ((hf2.get khm rfl).trans (hf1.get khm rfl))
    have t_hm4 : (I1 hm 4).toInt = (I hm 4).toInt := congrArg Int32.toInt (hf1.get khm rfl)
    have t_hm5 : (I2 hm 5).toInt = (I hm 5).toInt := congrArg Int32.toInt ((hf2.get khm rfl).trans (hf1.get khm rfl))
    have t_hm6 : (I2 hm 6).toInt = (I hm 6).toInt := congrArg Int32.toInt ((hf2.get khm rfl).trans (hf1.get khm rfl))
    have t_hm7 : (I2 hm 7).toInt = (I hm 7).toInt := congrArg Int32.toInt ((hf2.get khm rfl).trans (hf1.get khm rfl))
    have t_hm8 : (I2 hm 8).toInt = (I hm 8).toInt := congrArg Int32.toInt ((hf2.get khm rfl).trans (hf1.get khm rfl))
    have t_hm9 : (I2 hm 9).toInt = (I hm 9).toInt := congrArg Int32.toInt ((hf2.get khm rfl).trans (hf1.get khm rfl))
    have t_hm5b : (I1 hm 5).toInt = (I hm 5).toInt := congrArg Int32.toInt (hf1.get khm rfl)
    have ip := int_undo (m8.trans t_hm4.symm) (show (I lk 5).toInt = (I1 hm 4).toInt - (I1 hm 5).toInt by rw [t_hm4, t_hm5b]; exact m9) (by rw [t_hm4, t_hm5b]; exact hs.told khm) k1_0 pq
    have lrn : LR h lk rd m K I2 R := ⟨t_rd0.trans (lr.1.trans t_m20.symm), Or.inr ⟨hm, r3, khm, by rw [t_h6]; exact m0, t_h1.trans (m1.trans t_hm3.symm), t_h4.trans (m2.trans t_hm6.symm), t_h6.trans (m3.trans t_hm7.symm), t_h8.trans (m4.trans t_hm8.symm), t_h12.trans (m5.trans t_hm9.symm), t_lk1.trans (m6.trans t_hm0.symm), t_lk3.trans (m7.trans t_hm2.symm), t_lk4.trans ip.2.1, t_lk5.trans (ip.2.2.trans (by rw [t_hm5, t_hm5b]))⟩⟩
    have lcn : LC x h lk rd m K I2 R := by
      by_cases hc8 : 0 < (I lk 5).toInt
      · have hDD : ∀ k, k ≠ 4 → (upD DA 0 4 (DA 0 4 - 1)) 0 k = DA 0 k := fun k hk => by simp [upD, hk]
        have lcb2 : LCb x h lk m (upD DA 0 4 (DA 0 4 - 1)) K I2 R := by
          refine LCb.step hs kh klk hu scd hf1 hf2 rfl rfl rfl (fun _ => rfl) (fun _ => rfl) (fun _ => rfl) (fun _ => rfl) rfl rfl rfl rfl rfl rfl rfl rfl kx (fun _ => rfl) (D' := (upD DA 0 4 (DA 0 4 - 1))) hDD (k1_1.1 hc8) (by have h9 := k1_0; have h8 := sd4; rw [upD_s]; omega) (fun hm9 z9 => ?_)
          rw [r3] at z9; cases z9
          obtain ⟨z1, z2, z3, z4, z5⟩ := lcm hm r3
          have h44 := z4.2.2.2.1
          have k9 := k2_1 hm r3
          have hf4 : (I1 hm 4).toInt = (I hm 4).toInt := congrArg Int32.toInt (hf1.get z1 rfl)
          have hf5 : (I1 hm 5).toInt = (I hm 5).toInt := congrArg Int32.toInt (hf1.get z1 rfl)
          have htl := hs.told z1
          have c10 : (I1 hm 4).toInt ≠ (I1 hm 5).toInt := (by omega)
          have q4 : (I2 hm 4).toInt = (I1 hm 4).toInt - 1 := by rcases pq with ⟨y1, y2, y3⟩ | ⟨y1, y2, y3⟩; exact y3; exact absurd y1 c10
          exact ⟨z1, (dj_u4 z2), k9.1 c10, z4, by rw [upD_s]; omega, fun l2 zl => by rw [hlw] at zl; cases zl; exact k1_2.1 hc8⟩
        exact ⟨hu, (upD DA 0 4 (DA 0 4 - 1)), lcb2, EA, KC.re kc (hDD 5 (by decide)) (hDD 6 (by decide)) (hDD 7 (by decide)) lcb2.1 lcb2.2.1 (fun z7 => ⟨dj_u4 (kc.2.2.1 z7).1, fun l2 zl => by rw [hlw] at zl; cases zl; exact (k1_2.1 hc8).eq (fun j => hf2.get klw rfl)⟩) (KN_0 (fun kn2 zl j hj => by rw [hkn] at zl; cases zl; rw [hf2.get kkn rfl]; exact k1_3.1 hc8 j hj)) (by rw [hf2.get krd rfl, hf1.get krd rfl]) (fun b2 k z => (Fr.rrow hf2 hs krd rfl b2 k z).trans (Fr.rrow hf1 hs krd rfl b2 k z)), (rdm.mv hs km hf1 rfl).mv hs km hf2 rfl⟩
      · have hDD : ∀ k, k ≠ 4 → DA 0 k = DA 0 k := fun k hk => rfl
        have lcb2 : LCb x h lk m DA K I2 R := by
          refine LCb.step hs kh klk hu scd hf1 hf2 rfl rfl rfl (fun _ => rfl) (fun _ => rfl) (fun _ => rfl) (fun _ => rfl) rfl rfl rfl rfl rfl rfl rfl rfl kx (fun _ => rfl) (D' := DA) hDD (k1_1.2 hc8) (by have h9 := k1_0; have h8 := sd4; omega) (fun hm9 z9 => ?_)
          rw [r3] at z9; cases z9
          obtain ⟨z1, z2, z3, z4, z5⟩ := lcm hm r3
          have h44 := z4.2.2.2.1
          have k9 := k2_1 hm r3
          have hf4 : (I1 hm 4).toInt = (I hm 4).toInt := congrArg Int32.toInt (hf1.get z1 rfl)
          have hf5 : (I1 hm 5).toInt = (I hm 5).toInt := congrArg Int32.toInt (hf1.get z1 rfl)
          have htl := hs.told z1
          have c10 : ¬ ((I1 hm 4).toInt ≠ (I1 hm 5).toInt) := (by omega)
          have q4 : (I2 hm 4).toInt = (I1 hm 4).toInt := by rcases pq with ⟨y1, y2, y3⟩ | ⟨y1, y2, y3⟩; exact absurd y1 c10; exact y3
          exact ⟨z1, z2, k9.2 c10, z4, by omega, fun l2 zl => by rw [hlw] at zl; cases zl; exact (z5 lw hlw).eq (k1_2.2 hc8)⟩
        exact ⟨hu, DA, lcb2, EA, KC.re kc (hDD 5 (by decide)) (hDD 6 (by decide)) (hDD 7 (by decide)) lcb2.1 lcb2.2.1 (fun z7 => ⟨(kc.2.2.1 z7).1, fun l2 zl => by rw [hlw] at zl; cases zl; exact ((kc.2.2.1 z7).2.2 lw hlw).eq (fun j => (hf2.get klw rfl).trans (k1_2.2 hc8 j))⟩) (KN.eq kc.2.2.2.1 ka (fun b2 k z => (Fr.crs hf2 rfl b2 k z).trans (Fr.crs hf1 rfl b2 k z)) (fun kn2 zl j => by rw [hkn] at zl; cases zl; exact (hf2.get kkn rfl).trans (k1_3.2 hc8 j))) (by rw [hf2.get krd rfl, hf1.get krd rfl]) (fun b2 k z => (Fr.rrow hf2 hs krd rfl b2 k z).trans (Fr.rrow hf1 hs krd rfl b2 k z)), (rdm.mv hs km hf1 rfl).mv hs km hf2 rfl⟩
    have eqv : x1_.toInt = x2_.toInt := ip.1
    refine r_pop hC dL_law_387 rfl ?_
    refine r_goto hC (tgt := 1253) dL_law_388 (by decide) ?_
    refine r_sub [0, 1, 2, 3, 4] rfl ?_
    refine r_widen hC (k2 := cn + 18) (n2 := sn + 231) (Nat.le_add_right _ _) (Nat.le_add_right _ _) ?_
    exact kk K len I2 J R ⟨hs2, la, ⟨h, s, lk, ls, lh, lrn, lcn⟩, lbv⟩
set_option maxHeartbeats 4000000 in
set_option maxRecDepth 100000 in
theorem law_7 {g : GG} {X : XT} {b L : Nat} {xs : Nat → Int32} (hX : LX g X b L xs) {x m o tp bt te tk nr pr rd mt cn sn : Nat} {i : Int32} {K len : Nat → Nat} {I : Nat → Nat → Int32} {J : Nat → Nat → Int64} {R : Nat → Nat → Option Nat} (hI : LI x m o tp bt te tk nr pr rd mt K len I R) (hi : 0 ≤ i.toInt) (hiL : i.toInt + 6 ≤ L) (hcn : cn + 18 ≤ 601024) (hsn : sn + 231 ≤ 7293034) (kk : ∀ K' len' I' J' R', LI x m o tp bt te tk nr pr rd mt K' len' I' R' → P g X 7 1253 [(0, .ref b), (1, .ref x), (2, .ref m), (3, .ref o), (4, .int i)] [] (cn + 18) (sn + 231) (K', len', I', J', R')) : P g X 7 391 [(0, .ref b), (1, .ref x), (2, .ref m), (3, .ref o), (4, .int i)] [] cn sn (K, len, I, J, R) := by
  obtain ⟨hC, hcs, hl, hXs, hb, hbA, hL⟩ := hX
  obtain ⟨hs, la, ⟨h, s, lk, ls, lh, lr, lc⟩, lb, lv⟩ := id hI
  obtain ⟨hu, DA, lcb, EA, kc, rdm⟩ := id lc
  obtain ⟨rwd, scd, lcm⟩ := id lcb
  obtain ⟨sd1, sd2, sd3, sd4, sd5, sd7, sd8, sd9⟩ := id scd
  obtain ⟨kx, km, ⟨ko, no⟩, ⟨htp, ktp⟩, ⟨hbb, kbt, nbt⟩, ⟨hte, kte⟩, ⟨htk, ktk⟩, hbt, ⟨hnr, knr, lnr⟩, ⟨hpr, kpr, lpr⟩, ⟨hrd, krd⟩, ⟨hmt, kmt, nmt⟩⟩ := id la
  obtain ⟨⟨hh, kh⟩, ⟨hs2, ks⟩, ⟨hlk2, klk⟩, ⟨hls, kls⟩, nhs, nls⟩ := id lh
  obtain ⟨lv1, lv2, lv3, lv4⟩ := id lv
  obtain ⟨lw, hlw, klw, llw⟩ := hs.row kx 4 41 60 (by decide) (by decide)
  obtain ⟨kn, hkn, kkn, lkn⟩ := hs.row kx 6 43 6 (by decide) (by decide)
  obtain ⟨cr, hcr, kcr1, lcr⟩ := hs.row kx 5 44 6 (by decide) (by decide)
  have ka : KA x h lk rd K len R := ⟨⟨_, hs⟩, hu, kx, kh, klk, krd⟩
  have rdb9 := hs.rng krd (k := 0) rfl (x := I rd 0) rfl
  obtain ⟨tl, htl, ktl, ltl⟩ := hs.row kx 7 41 60 (by decide) (by decide)
  obtain ⟨lrw, hlrw, klrw, llrw⟩ := hs.row km 15 85 60 (by decide) (by decide)
  have nlt : lw ≠ tl := hu.ne hlw htl (by rw [klw]; decide) (Or.inr (by decide))
  refine r_aload_n hC dL_law_391 1 rfl ?_
  refine r_aload_n hC dL_law_392 0 rfl ?_
  refine r_iload hC dL_law_393 4 rfl ?_
  refine r_iconst hC (v := (1)) dL_law_395 (by decide) (by decide) (fun x1_ e1 t1 => ?_)
  refine r_iadd hC dL_law_396 (fun x2_ e2 => ?_)
  have t2 : x2_.toInt = i.toInt + 1 := sAd e2 t1 (by decide) (by decide) hi hiL hL
  refine r_sld hC hXs hb hbA (sLo t2 (by decide) hi) (sHi t2 (by decide) hiL) dL_law_397 (fun x3_ e3 => ?_)
  refine r_aload_n hC dL_law_398 0 rfl ?_
  refine r_iload hC dL_law_399 4 rfl ?_
  refine r_iconst hC (v := (2)) dL_law_401 (by decide) (by decide) (fun x4_ e4 t4 => ?_)
  refine r_iadd hC dL_law_402 (fun x5_ e5 => ?_)
  have t5 : x5_.toInt = i.toInt + 2 := sAd e5 t4 (by decide) (by decide) hi hiL hL
  refine r_sld hC hXs hb hbA (sLo t5 (by decide) hi) (sHi t5 (by decide) hiL) dL_law_403 (fun x6_ e6 => ?_)
  refine r_aload_n hC dL_law_404 0 rfl ?_
  refine r_iload hC dL_law_405 4 rfl ?_
  refine r_iconst hC (v := (3)) dL_law_407 (by decide) (by decide) (fun x7_ e7 t7 => ?_)
  refine r_iadd hC dL_law_408 (fun x8_ e8 => ?_)
  have t8 : x8_.toInt = i.toInt + 3 := sAd e8 t7 (by decide) (by decide) hi hiL hL
  refine r_sld hC hXs hb hbA (sLo t8 (by decide) hi) (sHi t8 (by decide) hiL) dL_law_409 (fun x9_ e9 => ?_)
  refine r_aload_n hC dL_law_410 0 rfl ?_
  refine r_iload hC dL_law_411 4 rfl ?_
  refine r_iconst hC (v := (4)) dL_law_413 (by decide) (by decide) (fun x10_ e10 t10 => ?_)
  refine r_iadd hC dL_law_414 (fun x11_ e11 => ?_)
  have t11 : x11_.toInt = i.toInt + 4 := sAd e11 t10 (by decide) (by decide) hi hiL hL
  refine r_sld hC hXs hb hbA (sLo t11 (by decide) hi) (sHi t11 (by decide) hiL) dL_law_415 (fun x12_ e12 => ?_)
  refine r_callV hC (As := [.int x3_, .int x6_, .int x9_, .int x12_]) (rest := []) (ci := 8) (f_X8_peg g (xL X) K len I J R hs x kx x3_ x6_ x9_ x12_ h hh kh lk hlk2 klk rd hrd krd lw hlw klw llw kn hkn kkn lkn cr hcr kcr1 lcr hu DA EA kc) mT_3_147 mT_1_1 mT_3_144 mT_3_145 mT_3_146 okX8_peg ⟨by decide, by decide⟩ rfl (by show kO (K x) = _; rw [kx]; rfl) rfl rfl (Nat.le_of_ble_eq_true rfl) ⟨Nat.le_trans (show cn + 0 ≤ cn + 18 from Nat.add_le_add_left (by decide) cn) hcn, Nat.le_trans (show sn + 0 ≤ sn + 231 from Nat.add_le_add_left (by decide) sn) hsn⟩ dL_law_416 (aI1 (F := fun st M => P g X 7 419 [(0, .ref b), (1, .ref x), (2, .ref m), (3, .ref o), (4, .int i)] st _ _ M) (M := (K, len, I, J, R)) fun x13_ I13 h13 => ?_)
  obtain ⟨hs13, hf13, k13_0, k13_1⟩ := h13
  show P g X 7 419 [(0, .ref b), (1, .ref x), (2, .ref m), (3, .ref o), (4, .int i)] [.int x13_] cn sn (K, len, I13, J, R)
  refine r_pop hC dL_law_419 rfl ?_
  refine r_aload_n hC dL_law_420 2 rfl ?_
  refine r_aload_n hC dL_law_421 0 rfl ?_
  refine r_iload hC dL_law_422 4 rfl ?_
  refine r_iconst hC (v := (1)) dL_law_424 (by decide) (by decide) (fun x14_ e14 t14 => ?_)
  refine r_iadd hC dL_law_425 (fun x15_ e15 => ?_)
  have t15 : x15_.toInt = i.toInt + 1 := sAd e15 t14 (by decide) (by decide) hi hiL hL
  refine r_sld hC hXs hb hbA (sLo t15 (by decide) hi) (sHi t15 (by decide) hiL) dL_law_426 (fun x16_ e16 => ?_)
  obtain rfl : x3_ = x16_ := sld_eq e3 e16 (t2.trans t15.symm)
  refine r_aload_n hC dL_law_427 0 rfl ?_
  refine r_iload hC dL_law_428 4 rfl ?_
  refine r_iconst hC (v := (2)) dL_law_430 (by decide) (by decide) (fun x17_ e17 t17 => ?_)
  refine r_iadd hC dL_law_431 (fun x18_ e18 => ?_)
  have t18 : x18_.toInt = i.toInt + 2 := sAd e18 t17 (by decide) (by decide) hi hiL hL
  refine r_sld hC hXs hb hbA (sLo t18 (by decide) hi) (sHi t18 (by decide) hiL) dL_law_432 (fun x19_ e19 => ?_)
  obtain rfl : x6_ = x19_ := sld_eq e6 e19 (t5.trans t18.symm)
  refine r_aload_n hC dL_law_433 0 rfl ?_
  refine r_iload hC dL_law_434 4 rfl ?_
  refine r_iconst hC (v := (3)) dL_law_436 (by decide) (by decide) (fun x20_ e20 t20 => ?_)
  refine r_iadd hC dL_law_437 (fun x21_ e21 => ?_)
  have t21 : x21_.toInt = i.toInt + 3 := sAd e21 t20 (by decide) (by decide) hi hiL hL
  refine r_sld hC hXs hb hbA (sLo t21 (by decide) hi) (sHi t21 (by decide) hiL) dL_law_438 (fun x22_ e22 => ?_)
  obtain rfl : x9_ = x22_ := sld_eq e9 e22 (t8.trans t21.symm)
  refine r_aload_n hC dL_law_439 0 rfl ?_
  refine r_iload hC dL_law_440 4 rfl ?_
  refine r_iconst hC (v := (4)) dL_law_442 (by decide) (by decide) (fun x23_ e23 t23 => ?_)
  refine r_iadd hC dL_law_443 (fun x24_ e24 => ?_)
  have t24 : x24_.toInt = i.toInt + 4 := sAd e24 t23 (by decide) (by decide) hi hiL hL
  refine r_sld hC hXs hb hbA (sLo t24 (by decide) hi) (sHi t24 (by decide) hiL) dL_law_444 (fun x25_ e25 => ?_)
  obtain rfl : x12_ = x25_ := sld_eq e12 e25 (t11.trans t24.symm)
  refine r_callV hC (As := [.int x3_, .int x6_, .int x9_, .int x12_]) (rest := []) (ci := 10) (c_X10_peg g (xL X) K len I13 J R hs13 m km x3_ x6_ x9_ x12_) mT_6_115 mT_1_10 mT_6_112 mT_6_113 mT_6_114 okX10_peg ⟨by decide, by decide⟩ rfl (by show kO (K m) = _; rw [km]; rfl) rfl rfl (Nat.le_of_ble_eq_true rfl) ⟨Nat.le_trans (show cn + 0 ≤ cn + 18 from Nat.add_le_add_left (by decide) cn) hcn, Nat.le_trans (show sn + 0 ≤ sn + 231 from Nat.add_le_add_left (by decide) sn) hsn⟩ dL_law_445 (aI1 (F := fun st M => P g X 7 448 [(0, .ref b), (1, .ref x), (2, .ref m), (3, .ref o), (4, .int i)] st _ _ M) (M := (K, len, I13, J, R)) fun x26_ I26 h26 => ?_)
  obtain ⟨hs26, hf26, k26_0⟩ := h26
  show P g X 7 448 [(0, .ref b), (1, .ref x), (2, .ref m), (3, .ref o), (4, .int i)] [.int x26_] cn sn (K, len, I26, J, R)
  have lbv := LBV.ref la lb lv hf13 hf26 rfl rfl rfl k13_1 k26_0
  have lcn := LC.two hu lcb rdm lr hs kx km krd kh klk hf13 hf26 k13_0 rfl rfl rfl
  refine r_pop hC dL_law_448 rfl ?_
  refine r_goto hC (tgt := 1253) dL_law_449 (by decide) ?_
  refine r_sub [0, 1, 2, 3, 4] rfl ?_
  refine r_widen hC (k2 := cn + 18) (n2 := sn + 231) (Nat.le_add_right _ _) (Nat.le_add_right _ _) ?_
  exact kk K len I26 J R ⟨hs26, la, ⟨h, s, lk, ls, lh, (lr.mv hf13 kh klk krd km rfl).mv hf26 kh klk krd km rfl, lcn⟩, lbv⟩
set_option maxHeartbeats 4000000 in
set_option maxRecDepth 100000 in
theorem law_8 {g : GG} {X : XT} {b L : Nat} {xs : Nat → Int32} (hX : LX g X b L xs) {x m o tp bt te tk nr pr rd mt cn sn : Nat} {i : Int32} {K len : Nat → Nat} {I : Nat → Nat → Int32} {J : Nat → Nat → Int64} {R : Nat → Nat → Option Nat} (hI : LI x m o tp bt te tk nr pr rd mt K len I R) (hi : 0 ≤ i.toInt) (hiL : i.toInt + 6 ≤ L) (hcn : cn + 18 ≤ 601024) (hsn : sn + 231 ≤ 7293034) (kk : ∀ K' len' I' J' R', LI x m o tp bt te tk nr pr rd mt K' len' I' R' → P g X 7 1253 [(0, .ref b), (1, .ref x), (2, .ref m), (3, .ref o), (4, .int i)] [] (cn + 18) (sn + 231) (K', len', I', J', R')) : P g X 7 452 [(0, .ref b), (1, .ref x), (2, .ref m), (3, .ref o), (4, .int i)] [] cn sn (K, len, I, J, R) := by
  obtain ⟨hC, hcs, hl, hXs, hb, hbA, hL⟩ := hX
  obtain ⟨hs, la, ⟨h, s, lk, ls, lh, lr, lc⟩, lb, lv⟩ := id hI
  obtain ⟨hu, DA, lcb, EA, kc, rdm⟩ := id lc
  obtain ⟨rwd, scd, lcm⟩ := id lcb
  obtain ⟨sd1, sd2, sd3, sd4, sd5, sd7, sd8, sd9⟩ := id scd
  obtain ⟨kx, km, ⟨ko, no⟩, ⟨htp, ktp⟩, ⟨hbb, kbt, nbt⟩, ⟨hte, kte⟩, ⟨htk, ktk⟩, hbt, ⟨hnr, knr, lnr⟩, ⟨hpr, kpr, lpr⟩, ⟨hrd, krd⟩, ⟨hmt, kmt, nmt⟩⟩ := id la
  obtain ⟨⟨hh, kh⟩, ⟨hs2, ks⟩, ⟨hlk2, klk⟩, ⟨hls, kls⟩, nhs, nls⟩ := id lh
  obtain ⟨lv1, lv2, lv3, lv4⟩ := id lv
  obtain ⟨lw, hlw, klw, llw⟩ := hs.row kx 4 41 60 (by decide) (by decide)
  obtain ⟨kn, hkn, kkn, lkn⟩ := hs.row kx 6 43 6 (by decide) (by decide)
  obtain ⟨cr, hcr, kcr1, lcr⟩ := hs.row kx 5 44 6 (by decide) (by decide)
  have ka : KA x h lk rd K len R := ⟨⟨_, hs⟩, hu, kx, kh, klk, krd⟩
  have rdb9 := hs.rng krd (k := 0) rfl (x := I rd 0) rfl
  obtain ⟨tl, htl, ktl, ltl⟩ := hs.row kx 7 41 60 (by decide) (by decide)
  obtain ⟨lrw, hlrw, klrw, llrw⟩ := hs.row km 15 85 60 (by decide) (by decide)
  have nlt : lw ≠ tl := hu.ne hlw htl (by rw [klw]; decide) (Or.inr (by decide))
  refine r_aload_n hC dL_law_452 1 rfl ?_
  refine r_aload_n hC dL_law_453 0 rfl ?_
  refine r_iload hC dL_law_454 4 rfl ?_
  refine r_iconst hC (v := (1)) dL_law_456 (by decide) (by decide) (fun x1_ e1 t1 => ?_)
  refine r_iadd hC dL_law_457 (fun x2_ e2 => ?_)
  have t2 : x2_.toInt = i.toInt + 1 := sAd e2 t1 (by decide) (by decide) hi hiL hL
  refine r_sld hC hXs hb hbA (sLo t2 (by decide) hi) (sHi t2 (by decide) hiL) dL_law_458 (fun x3_ e3 => ?_)
  refine r_callV hC (As := [.int x3_]) (rest := []) (ci := 8) (f_X8_gone g (xL X) K len I J R hs x kx x3_ h hh kh lk hlk2 klk rd hrd krd lw hlw klw llw kn hkn kkn lkn cr hcr kcr1 lcr hu DA EA kc) mT_3_201 mT_1_1 mT_3_198 mT_3_199 mT_3_200 okX8_gone ⟨by decide, by decide⟩ rfl (by show kO (K x) = _; rw [kx]; rfl) rfl rfl (Nat.le_of_ble_eq_true rfl) ⟨Nat.le_trans (show cn + 0 ≤ cn + 18 from Nat.add_le_add_left (by decide) cn) hcn, Nat.le_trans (show sn + 0 ≤ sn + 231 from Nat.add_le_add_left (by decide) sn) hsn⟩ dL_law_459 (aI1 (F := fun st M => P g X 7 462 [(0, .ref b), (1, .ref x), (2, .ref m), (3, .ref o), (4, .int i)] st _ _ M) (M := (K, len, I, J, R)) fun x4_ I4 h4 => ?_)
  obtain ⟨hs4, hf4, k4_0, k4_1, k4_2⟩ := h4
  show P g X 7 462 [(0, .ref b), (1, .ref x), (2, .ref m), (3, .ref o), (4, .int i)] [.int x4_] cn sn (K, len, I4, J, R)
  refine r_pop hC dL_law_462 rfl ?_
  refine r_aload_n hC dL_law_463 2 rfl ?_
  refine r_aload_n hC dL_law_464 0 rfl ?_
  refine r_iload hC dL_law_465 4 rfl ?_
  refine r_iconst hC (v := (1)) dL_law_467 (by decide) (by decide) (fun x5_ e5 t5 => ?_)
  refine r_iadd hC dL_law_468 (fun x6_ e6 => ?_)
  have t6 : x6_.toInt = i.toInt + 1 := sAd e6 t5 (by decide) (by decide) hi hiL hL
  refine r_sld hC hXs hb hbA (sLo t6 (by decide) hi) (sHi t6 (by decide) hiL) dL_law_469 (fun x7_ e7 => ?_)
  obtain rfl : x3_ = x7_ := sld_eq e3 e7 (t2.trans t6.symm)
  refine r_callV hC (As := [.int x3_]) (rest := []) (ci := 10) (c_X10_gone g (xL X) K len I4 J R hs4 m km x3_) mT_6_155 mT_1_10 mT_6_152 mT_6_153 mT_6_154 okX10_gone ⟨by decide, by decide⟩ rfl (by show kO (K m) = _; rw [km]; rfl) rfl rfl (Nat.le_of_ble_eq_true rfl) ⟨Nat.le_trans (show cn + 0 ≤ cn + 18 from Nat.add_le_add_left (by decide) cn) hcn, Nat.le_trans (show sn + 0 ≤ sn + 231 from Nat.add_le_add_left (by decide) sn) hsn⟩ dL_law_470 (aI1 (F := fun st M => P g X 7 473 [(0, .ref b), (1, .ref x), (2, .ref m), (3, .ref o), (4, .int i)] st _ _ M) (M := (K, len, I4, J, R)) fun x8_ I8 h8 => ?_)
  obtain ⟨hs8, hf8, k8_0⟩ := h8
  show P g X 7 473 [(0, .ref b), (1, .ref x), (2, .ref m), (3, .ref o), (4, .int i)] [.int x8_] cn sn (K, len, I8, J, R)
  have lbv := LBV.ref la lb lv hf4 hf8 rfl rfl rfl k4_2 k8_0
  have lcn := LC.two hu lcb rdm lr hs kx km krd kh klk hf4 hf8 k4_0 rfl rfl rfl
  refine r_pop hC dL_law_473 rfl ?_
  refine r_goto hC (tgt := 1253) dL_law_474 (by decide) ?_
  refine r_sub [0, 1, 2, 3, 4] rfl ?_
  refine r_widen hC (k2 := cn + 18) (n2 := sn + 231) (Nat.le_add_right _ _) (Nat.le_add_right _ _) ?_
  exact kk K len I8 J R ⟨hs8, la, ⟨h, s, lk, ls, lh, (lr.mv hf4 kh klk krd km rfl).mv hf8 kh klk krd km rfl, lcn⟩, lbv⟩

