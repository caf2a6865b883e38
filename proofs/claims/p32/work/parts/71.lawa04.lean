set_option maxHeartbeats 4000000 in
set_option maxRecDepth 100000 in
theorem law_9 {g : GG} {X : XT} {b L : Nat} {xs : Nat → Int32} (hX : LX g X b L xs) {x m o tp bt te tk nr pr rd mt cn sn : Nat} {i : Int32} {K len : Nat → Nat} {I : Nat → Nat → Int32} {J : Nat → Nat → Int64} {R : Nat → Nat → Option Nat} (hI : LI x m o tp bt te tk nr pr rd mt K len I R) (hi : 0 ≤ i.toInt) (hiL : i.toInt + 6 ≤ L) (hcn : cn + 18 ≤ 601024) (hsn : sn + 231 ≤ 7293034) (kk : ∀ K' len' I' J' R', LI x m o tp bt te tk nr pr rd mt K' len' I' R' → P g X 7 1253 [(0, .ref b), (1, .ref x), (2, .ref m), (3, .ref o), (4, .int i)] [] (cn + 18) (sn + 231) (K', len', I', J', R')) : P g X 7 477 [(0, .ref b), (1, .ref x), (2, .ref m), (3, .ref o), (4, .int i)] [] cn sn (K, len, I, J, R) := by
  obtain ⟨hC, hcs, hl, hXs, hb, hbA, hL⟩ := hX
  obtain ⟨hs, la, ⟨h, s, lk, ls, lh, lr, lc⟩, lb, lv⟩ := id hI
  obtain ⟨hu, DA, lcb, EA, kc, rdm⟩ := id lc
  obtain ⟨rwd, scd, lcm⟩ := id lcb
  obtain ⟨sd1, sd2, sd3, sd4, sd5, sd7, sd8, sd9⟩ := id scd
  obtain ⟨kx, km, ⟨ko, no⟩, ⟨htp, ktp⟩, ⟨hbb, kbt, nbt⟩, ⟨hte, kte⟩, ⟨htk, ktk⟩, hbt, ⟨hnr, knr, lnr⟩, ⟨hpr, kpr, lpr⟩, ⟨hrd, krd⟩, ⟨hmt, kmt, nmt⟩⟩ := id la
  obtain ⟨⟨hh, kh⟩, ⟨hs2, ks⟩, ⟨hlk2, klk⟩, ⟨hls, kls⟩, nhs, nls⟩ := id lh
  obtain ⟨lv1, lv2, lv3, lv4⟩ := id lv
  obtain ⟨lw, hlw, klw, llw⟩ := hs.row kx 4 41 60 (by decide) (by decide)
  obtain ⟨kn, hkn, kkn, lkn⟩ := hs.row kx 6 43 6 (by decide) (by decide)
  obtain ⟨cr, hcr, kcr1, lcr⟩ := hs.row kx 5 44 6 (by decide) (by decide)
  have ka : KA x h lk rd K len R := ⟨⟨_, hs⟩, hu, kx, kh, klk, krd⟩
  have rdb9 := hs.rng krd (k := 0) rfl (x := I rd 0) rfl
  obtain ⟨tl, htl, ktl, ltl⟩ := hs.row kx 7 41 60 (by decide) (by decide)
  obtain ⟨lrw, hlrw, klrw, llrw⟩ := hs.row km 15 85 60 (by decide) (by decide)
  have nlt : lw ≠ tl := hu.ne hlw htl (by rw [klw]; decide) (Or.inr (by decide))
  refine r_aload_n hC dL_law_477 1 rfl ?_
  refine r_aload_n hC dL_law_478 0 rfl ?_
  refine r_iload hC dL_law_479 4 rfl ?_
  refine r_iconst hC (v := (1)) dL_law_481 (by decide) (by decide) (fun x1_ e1 t1 => ?_)
  refine r_iadd hC dL_law_482 (fun x2_ e2 => ?_)
  have t2 : x2_.toInt = i.toInt + 1 := sAd e2 t1 (by decide) (by decide) hi hiL hL
  refine r_sld hC hXs hb hbA (sLo t2 (by decide) hi) (sHi t2 (by decide) hiL) dL_law_483 (fun x3_ e3 => ?_)
  refine r_callV hC (As := [.int x3_]) (rest := []) (ci := 8) (f_X8_wave g (xL X) K len I J R hs x kx x3_ h hh kh lk hlk2 klk rd hrd krd lw hlw klw llw kn hkn kkn lkn cr hcr kcr1 lcr hu DA EA kc) mT_3_205 mT_1_1 mT_3_202 mT_3_203 mT_3_204 okX8_wave ⟨by decide, by decide⟩ rfl (by show kO (K x) = _; rw [kx]; rfl) rfl rfl (Nat.le_of_ble_eq_true rfl) ⟨Nat.le_trans (show cn + 0 ≤ cn + 18 from Nat.add_le_add_left (by decide) cn) hcn, Nat.le_trans (show sn + 0 ≤ sn + 231 from Nat.add_le_add_left (by decide) sn) hsn⟩ dL_law_484 (aI1 (F := fun st M => P g X 7 487 [(0, .ref b), (1, .ref x), (2, .ref m), (3, .ref o), (4, .int i)] st _ _ M) (M := (K, len, I, J, R)) fun x4_ I4 h4 => ?_)
  obtain ⟨hs4, hf4, k4_0, k4_1, k4_2⟩ := h4
  show P g X 7 487 [(0, .ref b), (1, .ref x), (2, .ref m), (3, .ref o), (4, .int i)] [.int x4_] cn sn (K, len, I4, J, R)
  refine r_pop hC dL_law_487 rfl ?_
  refine r_aload_n hC dL_law_488 2 rfl ?_
  refine r_aload_n hC dL_law_489 0 rfl ?_
  refine r_iload hC dL_law_490 4 rfl ?_
  refine r_iconst hC (v := (1)) dL_law_492 (by decide) (by decide) (fun x5_ e5 t5 => ?_)
  refine r_iadd hC dL_law_493 (fun x6_ e6 => ?_)
  have t6 : x6_.toInt = i.toInt + 1 := sAd e6 t5 (by decide) (by decide) hi hiL hL
  refine r_sld hC hXs hb hbA (sLo t6 (by decide) hi) (sHi t6 (by decide) hiL) dL_law_494 (fun x7_ e7 => ?_)
  obtain rfl : x3_ = x7_ := sld_eq e3 e7 (t2.trans t6.symm)
  refine r_callV hC (As := [.int x3_]) (rest := []) (ci := 10) (c_X10_wave g (xL X) K len I4 J R hs4 m km x3_) mT_6_159 mT_1_10 mT_6_156 mT_6_157 mT_6_158 okX10_wave ⟨by decide, by decide⟩ rfl (by show kO (K m) = _; rw [km]; rfl) rfl rfl (Nat.le_of_ble_eq_true rfl) ⟨Nat.le_trans (show cn + 0 ≤ cn + 18 from Nat.add_le_add_left (by decide) cn) hcn, Nat.le_trans (show sn + 0 ≤ sn + 231 from Nat.add_le_add_left (by decide) sn) hsn⟩ dL_law_495 (aI1 (F := fun st M => P g X 7 498 [(0, .ref b), (1, .ref x), (2, .ref m), (3, .ref o), (4, .int i)] st _ _ M) (M := (K, len, I4, J, R)) fun x8_ I8 h8 => ?_)
  obtain ⟨hs8, hf8, k8_0⟩ := h8
  show P g X 7 498 [(0, .ref b), (1, .ref x), (2, .ref m), (3, .ref o), (4, .int i)] [.int x8_] cn sn (K, len, I8, J, R)
  have lbv := LBV.ref la lb lv hf4 hf8 rfl rfl rfl k4_2 k8_0
  have lcn := LC.two hu lcb rdm lr hs kx km krd kh klk hf4 hf8 k4_0 rfl rfl rfl
  refine r_pop hC dL_law_498 rfl ?_
  refine r_goto hC (tgt := 1253) dL_law_499 (by decide) ?_
  refine r_sub [0, 1, 2, 3, 4] rfl ?_
  refine r_widen hC (k2 := cn + 18) (n2 := sn + 231) (Nat.le_add_right _ _) (Nat.le_add_right _ _) ?_
  exact kk K len I8 J R ⟨hs8, la, ⟨h, s, lk, ls, lh, (lr.mv hf4 kh klk krd km rfl).mv hf8 kh klk krd km rfl, lcn⟩, lbv⟩
set_option maxHeartbeats 4000000 in
set_option maxRecDepth 100000 in
theorem law_10 {g : GG} {X : XT} {b L : Nat} {xs : Nat → Int32} (hX : LX g X b L xs) {x m o tp bt te tk nr pr rd mt cn sn : Nat} {i : Int32} {K len : Nat → Nat} {I : Nat → Nat → Int32} {J : Nat → Nat → Int64} {R : Nat → Nat → Option Nat} (hI : LI x m o tp bt te tk nr pr rd mt K len I R) (hi : 0 ≤ i.toInt) (hiL : i.toInt + 6 ≤ L) (hcn : cn + 18 ≤ 601024) (hsn : sn + 231 ≤ 7293034) (kk : ∀ K' len' I' J' R', LI x m o tp bt te tk nr pr rd mt K' len' I' R' → P g X 7 1253 [(0, .ref b), (1, .ref x), (2, .ref m), (3, .ref o), (4, .int i)] [] (cn + 18) (sn + 231) (K', len', I', J', R')) : P g X 7 502 [(0, .ref b), (1, .ref x), (2, .ref m), (3, .ref o), (4, .int i)] [] cn sn (K, len, I, J, R) := by
  obtain ⟨hC, hcs, hl, hXs, hb, hbA, hL⟩ := hX
  obtain ⟨hs, la, ⟨h, s, lk, ls, lh, lr, lc⟩, lb, lv⟩ := id hI
  obtain ⟨hu, DA, lcb, EA, kc, rdm⟩ := id lc
  obtain ⟨rwd, scd, lcm⟩ := id lcb
  obtain ⟨sd1, sd2, sd3, sd4, sd5, sd7, sd8, sd9⟩ := id scd
  obtain ⟨kx, km, ⟨ko, no⟩, ⟨htp, ktp⟩, ⟨hbb, kbt, nbt⟩, ⟨hte, kte⟩, ⟨htk, ktk⟩, hbt, ⟨hnr, knr, lnr⟩, ⟨hpr, kpr, lpr⟩, ⟨hrd, krd⟩, ⟨hmt, kmt, nmt⟩⟩ := id la
  obtain ⟨⟨hh, kh⟩, ⟨hs2, ks⟩, ⟨hlk2, klk⟩, ⟨hls, kls⟩, nhs, nls⟩ := id lh
  obtain ⟨lv1, lv2, lv3, lv4⟩ := id lv
  obtain ⟨lw, hlw, klw, llw⟩ := hs.row kx 4 41 60 (by decide) (by decide)
  obtain ⟨kn, hkn, kkn, lkn⟩ := hs.row kx 6 43 6 (by decide) (by decide)
  obtain ⟨cr, hcr, kcr1, lcr⟩ := hs.row kx 5 44 6 (by decide) (by decide)
  have ka : KA x h lk rd K len R := ⟨⟨_, hs⟩, hu, kx, kh, klk, krd⟩
  have rdb9 := hs.rng krd (k := 0) rfl (x := I rd 0) rfl
  obtain ⟨tl, htl, ktl, ltl⟩ := hs.row kx 7 41 60 (by decide) (by decide)
  obtain ⟨lrw, hlrw, klrw, llrw⟩ := hs.row km 15 85 60 (by decide) (by decide)
  have nlt : lw ≠ tl := hu.ne hlw htl (by rw [klw]; decide) (Or.inr (by decide))
  refine r_aload_n hC dL_law_502 1 rfl ?_
  refine r_aload_n hC dL_law_503 0 rfl ?_
  refine r_iload hC dL_law_504 4 rfl ?_
  refine r_iconst hC (v := (1)) dL_law_506 (by decide) (by decide) (fun x1_ e1 t1 => ?_)
  refine r_iadd hC dL_law_507 (fun x2_ e2 => ?_)
  have t2 : x2_.toInt = i.toInt + 1 := sAd e2 t1 (by decide) (by decide) hi hiL hL
  refine r_sld hC hXs hb hbA (sLo t2 (by decide) hi) (sHi t2 (by decide) hiL) dL_law_508 (fun x3_ e3 => ?_)
  refine r_aload_n hC dL_law_509 0 rfl ?_
  refine r_iload hC dL_law_510 4 rfl ?_
  refine r_iconst hC (v := (2)) dL_law_512 (by decide) (by decide) (fun x4_ e4 t4 => ?_)
  refine r_iadd hC dL_law_513 (fun x5_ e5 => ?_)
  have t5 : x5_.toInt = i.toInt + 2 := sAd e5 t4 (by decide) (by decide) hi hiL hL
  refine r_sld hC hXs hb hbA (sLo t5 (by decide) hi) (sHi t5 (by decide) hiL) dL_law_514 (fun x6_ e6 => ?_)
  refine r_aload_n hC dL_law_515 0 rfl ?_
  refine r_iload hC dL_law_516 4 rfl ?_
  refine r_iconst hC (v := (3)) dL_law_518 (by decide) (by decide) (fun x7_ e7 t7 => ?_)
  refine r_iadd hC dL_law_519 (fun x8_ e8 => ?_)
  have t8 : x8_.toInt = i.toInt + 3 := sAd e8 t7 (by decide) (by decide) hi hiL hL
  refine r_sld hC hXs hb hbA (sLo t8 (by decide) hi) (sHi t8 (by decide) hiL) dL_law_520 (fun x9_ e9 => ?_)
  refine r_aload_n hC dL_law_521 0 rfl ?_
  refine r_iload hC dL_law_522 4 rfl ?_
  refine r_iconst hC (v := (4)) dL_law_524 (by decide) (by decide) (fun x10_ e10 t10 => ?_)
  refine r_iadd hC dL_law_525 (fun x11_ e11 => ?_)
  have t11 : x11_.toInt = i.toInt + 4 := sAd e11 t10 (by decide) (by decide) hi hiL hL
  refine r_sld hC hXs hb hbA (sLo t11 (by decide) hi) (sHi t11 (by decide) hiL) dL_law_526 (fun x12_ e12 => ?_)
  refine r_callV hC (As := [.int x3_, .int x6_, .int x9_, .int x12_]) (rest := []) (ci := 8) (n_X8_read g (xL X) K len I J R hs x kx x3_ x6_ x9_ x12_ h hh kh rd hrd krd) mT_3_209 mT_1_1 mT_3_206 mT_3_207 mT_3_208 okX8_read ⟨by decide, by decide⟩ rfl (by show kO (K x) = _; rw [kx]; rfl) rfl rfl (Nat.le_of_ble_eq_true rfl) ⟨Nat.le_trans (show cn + 0 ≤ cn + 18 from Nat.add_le_add_left (by decide) cn) hcn, Nat.le_trans (show sn + 0 ≤ sn + 231 from Nat.add_le_add_left (by decide) sn) hsn⟩ dL_law_527 (aI1 (F := fun st M => P g X 7 530 [(0, .ref b), (1, .ref x), (2, .ref m), (3, .ref o), (4, .int i)] st _ _ M) (M := (K, len, I, J, R)) fun x13_ I13 h13 => ?_)
  obtain ⟨hs13, hf13, k13_0, k13_1, k13_2, k13_3⟩ := h13
  show P g X 7 530 [(0, .ref b), (1, .ref x), (2, .ref m), (3, .ref o), (4, .int i)] [.int x13_] cn sn (K, len, I13, J, R)
  refine r_pop hC dL_law_530 rfl ?_
  refine r_aload_n hC dL_law_531 2 rfl ?_
  refine r_aload_n hC dL_law_532 0 rfl ?_
  refine r_iload hC dL_law_533 4 rfl ?_
  refine r_iconst hC (v := (1)) dL_law_535 (by decide) (by decide) (fun x14_ e14 t14 => ?_)
  refine r_iadd hC dL_law_536 (fun x15_ e15 => ?_)
  have t15 : x15_.toInt = i.toInt + 1 := sAd e15 t14 (by decide) (by decide) hi hiL hL
  refine r_sld hC hXs hb hbA (sLo t15 (by decide) hi) (sHi t15 (by decide) hiL) dL_law_537 (fun x16_ e16 => ?_)
  obtain rfl : x3_ = x16_ := sld_eq e3 e16 (t2.trans t15.symm)
  refine r_aload_n hC dL_law_538 0 rfl ?_
  refine r_iload hC dL_law_539 4 rfl ?_
  refine r_iconst hC (v := (2)) dL_law_541 (by decide) (by decide) (fun x17_ e17 t17 => ?_)
  refine r_iadd hC dL_law_542 (fun x18_ e18 => ?_)
  have t18 : x18_.toInt = i.toInt + 2 := sAd e18 t17 (by decide) (by decide) hi hiL hL
  refine r_sld hC hXs hb hbA (sLo t18 (by decide) hi) (sHi t18 (by decide) hiL) dL_law_543 (fun x19_ e19 => ?_)
  obtain rfl : x6_ = x19_ := sld_eq e6 e19 (t5.trans t18.symm)
  refine r_aload_n hC dL_law_544 0 rfl ?_
  refine r_iload hC dL_law_545 4 rfl ?_
  refine r_iconst hC (v := (3)) dL_law_547 (by decide) (by decide) (fun x20_ e20 t20 => ?_)
  refine r_iadd hC dL_law_548 (fun x21_ e21 => ?_)
  have t21 : x21_.toInt = i.toInt + 3 := sAd e21 t20 (by decide) (by decide) hi hiL hL
  refine r_sld hC hXs hb hbA (sLo t21 (by decide) hi) (sHi t21 (by decide) hiL) dL_law_549 (fun x22_ e22 => ?_)
  obtain rfl : x9_ = x22_ := sld_eq e9 e22 (t8.trans t21.symm)
  refine r_aload_n hC dL_law_550 0 rfl ?_
  refine r_iload hC dL_law_551 4 rfl ?_
  refine r_iconst hC (v := (4)) dL_law_553 (by decide) (by decide) (fun x23_ e23 t23 => ?_)
  refine r_iadd hC dL_law_554 (fun x24_ e24 => ?_)
  have t24 : x24_.toInt = i.toInt + 4 := sAd e24 t23 (by decide) (by decide) hi hiL hL
  refine r_sld hC hXs hb hbA (sLo t24 (by decide) hi) (sHi t24 (by decide) hiL) dL_law_555 (fun x25_ e25 => ?_)
  obtain rfl : x12_ = x25_ := sld_eq e12 e25 (t11.trans t24.symm)
  refine r_callV hC (As := [.int x3_, .int x6_, .int x9_, .int x12_]) (rest := []) (ci := 10) (n_X10_read g (xL X) K len I13 J R hs13 m km x3_ x6_ x9_ x12_) mT_6_171 mT_1_10 mT_6_168 mT_6_169 mT_6_170 okX10_read ⟨by decide, by decide⟩ rfl (by show kO (K m) = _; rw [km]; rfl) rfl rfl (Nat.le_of_ble_eq_true rfl) ⟨Nat.le_trans (show cn + 0 ≤ cn + 18 from Nat.add_le_add_left (by decide) cn) hcn, Nat.le_trans (show sn + 0 ≤ sn + 231 from Nat.add_le_add_left (by decide) sn) hsn⟩ dL_law_556 (aI1 (F := fun st M => P g X 7 559 [(0, .ref b), (1, .ref x), (2, .ref m), (3, .ref o), (4, .int i)] st _ _ M) (M := (K, len, I13, J, R)) fun x26_ I26 h26 => ?_)
  obtain ⟨hs26, hf26, k26_0, k26_1, k26_2⟩ := h26
  show P g X 7 559 [(0, .ref b), (1, .ref x), (2, .ref m), (3, .ref o), (4, .int i)] [.int x26_] cn sn (K, len, I26, J, R)
  have lbv := LBV.ref la lb lv hf13 hf26 rfl rfl rfl k13_3 k26_2
  have t_h1 : (I26 h 1).toInt = (I h 1).toInt := congrArg Int32.toInt ((hf26.get kh rfl).trans (hf13.get kh rfl))
  have t_h4 : (I26 h 4).toInt = (I h 4).toInt := congrArg Int32.toInt ((hf26.get kh rfl).trans (hf13.get kh rfl))
  have t_h6 : (I26 h 6).toInt = (I h 6).toInt := congrArg Int32.toInt ((hf26.get kh rfl).trans (hf13.get kh rfl))
  have t_h8 : (I26 h 8).toInt = (I h 8).toInt := congrArg Int32.toInt ((hf26.get kh rfl).trans (hf13.get kh rfl))
  have t_h12 : (I26 h 12).toInt = (I h 12).toInt := congrArg Int32.toInt ((hf26.get kh rfl).trans (hf13.get kh rfl))
  have t_lk1 : (I26 lk 1).toInt = (I lk 1).toInt := congrArg Int32.toInt ((hf26.get klk rfl).trans (hf13.get klk rfl))
  have t_lk3 : (I26 lk 3).toInt = (I lk 3).toInt := congrArg Int32.toInt ((hf26.get klk rfl).trans (hf13.get klk rfl))
  have t_lk4 : (I26 lk 4).toInt = (I lk 4).toInt := congrArg Int32.toInt ((hf26.get klk rfl).trans (hf13.get klk rfl))
  have t_lk5 : (I26 lk 5).toInt = (I lk 5).toInt := congrArg Int32.toInt ((hf26.get klk rfl).trans (hf13.get klk rfl))
  have t_rd0 : (I26 rd 0).toInt = (I13 rd 0).toInt := congrArg Int32.toInt (hf26.get krd rfl)
  have t_m20 : (I13 m 20).toInt = (I m 20).toInt := congrArg Int32.toInt (hf13.get km rfl)
  rcases lr.2 with ⟨r3, n1, n2, n3, n4, n5, n6, n7, n8, n9, nr0⟩ | ⟨hm, r3, khm, m0, m1, m2, m3, m4, m5, m6, m7, m8, m9⟩
  · have pq := k26_0
    rcases pq with ⟨-, pq⟩ | ⟨hm9, z9, -⟩
    rotate_left
    · rw [r3] at z9; cases z9
    have ip := int_readN n1 k13_0
    have lrn : LR h lk rd m K I26 R := ⟨t_rd0.trans (ip.2.trans (lr.1.trans (t_m20.symm.trans pq.2.symm))), Or.inl ⟨r3, t_h1.trans n1, t_h4.trans n2, t_h6.trans n3, t_h8.trans n4, t_h12.trans n5, t_lk1.trans n6, t_lk3.trans n7, t_lk4.trans n8, t_lk5.trans n9, t_rd0.trans (ip.2.trans nr0)⟩⟩
    have mc1 : (I13 m 20).toInt = (I m 20).toInt := congrArg Int32.toInt (hf13.get km rfl)
    have rm1 : RdA 21 EA m I13 R (I13 m 20).toInt := rdm.mv hs km hf13 rfl
    have lcb2 := (lcb.mv hu hs kx hf13 kh klk rfl).mv hu hs kx hf26 kh klk rfl
    have lcn : LC x h lk rd m K I26 R := by
      have nc8 : ¬ (0 ≤ x3_.toInt ∧ x3_.toInt < (I h 1).toInt ∧ 0 ≤ x6_.toInt ∧ x6_.toInt ≤ 59 ∧ 0 ≤ x9_.toInt ∧ x9_.toInt ≤ 99999 ∧ 0 ≤ x12_.toInt ∧ x12_.toInt ≤ 999 ∧ (I rd 0).toInt < 24) := fun h9 => by omega
      exact ⟨hu, DA, lcb2, EA, (kc.rdx ka hf13 rfl (RdC.sm kc.2.2.2.2 hs krd (k13_2 nc8) (by omega))).mv ka hf26 rfl, by have h9 := (k26_1 EA rm1).2 (fun ⟨hm9, z9, _⟩ => by rw [r3] at z9; cases z9); rw [show (I13 m 20).toInt = (I26 m 20).toInt by omega] at h9; exact h9⟩
    have eqv : x13_.toInt = x26_.toInt := ip.1.trans pq.1.symm
    refine r_pop hC dL_law_559 rfl ?_
    refine r_goto hC (tgt := 1253) dL_law_560 (by decide) ?_
    refine r_sub [0, 1, 2, 3, 4] rfl ?_
    refine r_widen hC (k2 := cn + 18) (n2 := sn + 231) (Nat.le_add_right _ _) (Nat.le_add_right _ _) ?_
    exact kk K len I26 J R ⟨hs26, la, ⟨h, s, lk, ls, lh, lrn, lcn⟩, lbv⟩
  · have pq := k26_0
    rcases pq with ⟨z9, -⟩ | ⟨hm9, z9, pq⟩
    · rw [r3] at z9; cases z9
    rw [r3] at z9; cases z9
    have t_h1 : (I26 h 1).toInt = (I h 1).toInt := congrArg Int32.toInt ((hf26.get kh rfl).trans (hf13.get kh rfl))
    have t_h4 : (I26 h 4).toInt = (I h 4).toInt := congrArg Int32.toInt ((hf26.get kh rfl).trans (hf13.get kh rfl))
    have t_h6 : (I26 h 6).toInt = (I h 6).toInt := congrArg Int32.toInt ((hf26.get kh rfl).trans (hf13.get kh rfl))
    have t_h8 : (I26 h 8).toInt = (I h 8).toInt := congrArg Int32.toInt ((hf26.get kh rfl).trans (hf13.get kh rfl))
    have t_h12 : (I26 h 12).toInt = (I h 12).toInt := congrArg Int32.toInt ((hf26.get kh rfl).trans (hf13.get kh rfl))
    have t_lk1 : (I26 lk 1).toInt = (I lk 1).toInt := congrArg Int32.toInt ((hf26.get klk rfl).trans (hf13.get klk rfl))
    have t_lk3 : (I26 lk 3).toInt = (I lk 3).toInt := congrArg Int32.toInt ((hf26.get klk rfl).trans (hf13.get klk rfl))
    have t_lk4 : (I26 lk 4).toInt = (I lk 4).toInt := congrArg Int32.toInt ((hf26.get klk rfl).trans (hf13.get klk rfl))
    have t_lk5 : (I26 lk 5).toInt = (I lk 5).toInt := congrArg Int32.toInt ((hf26.get klk rfl).trans (hf13.get klk rfl))
    have t_rd0 : (I26 rd 0).toInt = (I13 rd 0).toInt := congrArg Int32.toInt (hf26.get krd rfl)
    have t_m20 : (I13 m 20).toInt = (I m 20).toInt := congrArg Int32.toInt (hf13.get km rfl)
    have t_hm0 : (I26 hm 0).toInt = (I hm 0).toInt := congrArg Int32.toInt ((hf26.get khm rfl).trans (hf13.get khm rfl))
    have t_hm2 : (I26 hm 2).toInt = (I hm 2).toInt := congrArg Int32.toInt ((hf26.get khm rfl).trans (hf13.get khm rfl))
    have t_hm3 : (I26 hm 3).toInt = (I hm 3).toInt := congrArg Int32.toInt ((hf26.get khm rfl).trans (hf13.get khm rfl))
    have t_hm4 : (I26 hm 4).toInt = (I hm 4).toInt := congrArg Int32.toInt ((hf26.get khm rfl).trans (hf13.get khm rfl))
    have t_hm5 : (I26 hm 5).toInt = (I hm 5).toInt := congrArg Int32.toInt ((hf26.get khm rfl).trans (hf13.get khm rfl))
    have t_hm6 : (I26 hm 6).toInt = (I hm 6).toInt := congrArg Int32.toInt ((hf26.get khm rfl).trans (hf13.get khm rfl))
    have t_hm7 : (I26 hm 7).toInt = (I hm 7).toInt := congrArg Int32.toInt ((hf26.get khm rfl).trans (hf13.get khm rfl))
    have t_hm8 : (I26 hm 8).toInt = (I hm 8).toInt := congrArg Int32.toInt ((hf26.get khm rfl).trans (hf13.get khm rfl))
    have t_hm9 : (I26 hm 9).toInt = (I hm 9).toInt := congrArg Int32.toInt ((hf26.get khm rfl).trans (hf13.get khm rfl))
    have t_hm3b : (I13 hm 3).toInt = (I hm 3).toInt := congrArg Int32.toInt (hf13.get khm rfl)
    have ip := int_read (m1.trans t_hm3b.symm) (lr.1.trans t_m20.symm) k13_0 pq
    have lrn : LR h lk rd m K I26 R := ⟨t_rd0.trans ip.2, Or.inr ⟨hm, r3, khm, by rw [t_h6]; exact m0, t_h1.trans (m1.trans t_hm3.symm), t_h4.trans (m2.trans t_hm6.symm), t_h6.trans (m3.trans t_hm7.symm), t_h8.trans (m4.trans t_hm8.symm), t_h12.trans (m5.trans t_hm9.symm), t_lk1.trans (m6.trans t_hm0.symm), t_lk3.trans (m7.trans t_hm2.symm), t_lk4.trans (m8.trans t_hm4.symm), by rw [t_lk5, t_hm4, t_hm5]; exact m9⟩⟩
    have mc1 : (I13 m 20).toInt = (I m 20).toInt := congrArg Int32.toInt (hf13.get km rfl)
    have rm1 : RdA 21 EA m I13 R (I13 m 20).toInt := rdm.mv hs km hf13 rfl
    have lcb2 := (lcb.mv hu hs kx hf13 kh klk rfl).mv hu hs kx hf26 kh klk rfl
    have lcn : LC x h lk rd m K I26 R := by
      by_cases hc8 : 0 ≤ x3_.toInt ∧ x3_.toInt < (I h 1).toInt ∧ 0 ≤ x6_.toInt ∧ x6_.toInt ≤ 59 ∧ 0 ≤ x9_.toInt ∧ x9_.toInt ≤ 99999 ∧ 0 ≤ x12_.toInt ∧ x12_.toInt ≤ 999 ∧ (I rd 0).toInt < 24
      · have ce : ∃ hm, R m 3 = some hm ∧ 0 ≤ x3_.toInt ∧ x3_.toInt < (I13 hm 3).toInt ∧ 0 ≤ x6_.toInt ∧ x6_.toInt ≤ 59 ∧ 0 ≤ x9_.toInt ∧ x9_.toInt ≤ 99999 ∧ 0 ≤ x12_.toInt ∧ x12_.toInt ≤ 999 ∧ (I13 m 20).toInt < 24 := ⟨hm, r3, by omega⟩
        have c1 : (I13 rd 0).toInt = (I rd 0).toInt + 1 := by have h9 := k13_0; omega
        have c2 : (I26 m 20).toInt = (I m 20).toInt + 1 := by have h9 := pq; omega
        have ra := k13_1 hc8 EA kc.2.2.2.2.1
        have h9 := (k26_1 EA rm1).1 ce
        rw [mc1, ← lr.1] at h9
        refine ⟨hu, DA, lcb2, apE EA (I rd 0).toInt.toNat x3_.toInt x6_.toInt x9_.toInt x12_.toInt, (kc.rdx ka hf13 rfl (RdC.ad kc.2.2.2.2 rfl (by have := hs.rng krd (k := 0) rfl (x := I rd 0) rfl; omega) c1 ra ⟨by omega, by omega⟩ ⟨by omega, by omega⟩ ⟨by omega, by omega⟩ ⟨by omega, by omega⟩)).mv ka hf26 rfl, ?_⟩
        show RdA 21 _ m I26 R (I26 m 20).toInt
        rw [c2, ← lr.1]; exact h9
      · have ne : ¬ (∃ hm, R m 3 = some hm ∧ 0 ≤ x3_.toInt ∧ x3_.toInt < (I13 hm 3).toInt ∧ 0 ≤ x6_.toInt ∧ x6_.toInt ≤ 59 ∧ 0 ≤ x9_.toInt ∧ x9_.toInt ≤ 99999 ∧ 0 ≤ x12_.toInt ∧ x12_.toInt ≤ 999 ∧ (I13 m 20).toInt < 24) := fun ⟨hm9, z9, y9⟩ => hc8 (by rw [r3] at z9; cases z9; omega)
        have c1 : (I13 rd 0).toInt = (I rd 0).toInt := by have h9 := k13_0; omega
        have c2 : (I13 m 20).toInt = (I26 m 20).toInt := by have h9 := pq; omega
        exact ⟨hu, DA, lcb2, EA, (kc.rdx ka hf13 rfl (RdC.sm kc.2.2.2.2 hs krd (k13_2 hc8) (by omega))).mv ka hf26 rfl, by have h9 := (k26_1 EA rm1).2 ne; rw [c2] at h9; exact h9⟩
    have eqv : x13_.toInt = x26_.toInt := ip.1
    refine r_pop hC dL_law_559 rfl ?_
    refine r_goto hC (tgt := 1253) dL_law_560 (by decide) ?_
    refine r_sub [0, 1, 2, 3, 4] rfl ?_
    refine r_widen hC (k2 := cn + 18) (n2 := sn + 231) (Nat.le_add_right _ _) (Nat.le_add_right _ _) ?_
    exact kk K len I26 J R ⟨hs26, la, ⟨h, s, lk, ls, lh, lrn, lcn⟩, lbv⟩
set_option maxHeartbeats 4000000 in
set_option maxRecDepth 100000 in
theorem law_11 {g : GG} {X : XT} {b L : Nat} {xs : Nat → Int32} (hX : LX g X b L xs) {x m o tp bt te tk nr pr rd mt cn sn : Nat} {i : Int32} {K len : Nat → Nat} {I : Nat → Nat → Int32} {J : Nat → Nat → Int64} {R : Nat → Nat → Option Nat} (hI : LI x m o tp bt te tk nr pr rd mt K len I R) (hi : 0 ≤ i.toInt) (hiL : i.toInt + 6 ≤ L) (hcn : cn + 18 ≤ 601024) (hsn : sn + 231 ≤ 7293034) (kk : ∀ K' len' I' J' R', LI x m o tp bt te tk nr pr rd mt K' len' I' R' → P g X 7 1253 [(0, .ref b), (1, .ref x), (2, .ref m), (3, .ref o), (4, .int i)] [] (cn + 18) (sn + 231) (K', len', I', J', R')) : P g X 7 563 [(0, .ref b), (1, .ref x), (2, .ref m), (3, .ref o), (4, .int i)] [] cn sn (K, len, I, J, R) := by
  obtain ⟨hC, hcs, hl, hXs, hb, hbA, hL⟩ := hX
  obtain ⟨hs, la, ⟨h, s, lk, ls, lh, lr, lc⟩, lb, lv⟩ := id hI
  obtain ⟨hu, DA, lcb, EA, kc, rdm⟩ := id lc
  obtain ⟨rwd, scd, lcm⟩ := id lcb
  obtain ⟨sd1, sd2, sd3, sd4, sd5, sd7, sd8, sd9⟩ := id scd
  obtain ⟨kx, km, ⟨ko, no⟩, ⟨htp, ktp⟩, ⟨hbb, kbt, nbt⟩, ⟨hte, kte⟩, ⟨htk, ktk⟩, hbt, ⟨hnr, knr, lnr⟩, ⟨hpr, kpr, lpr⟩, ⟨hrd, krd⟩, ⟨hmt, kmt, nmt⟩⟩ := id la
  obtain ⟨⟨hh, kh⟩, ⟨hs2, ks⟩, ⟨hlk2, klk⟩, ⟨hls, kls⟩, nhs, nls⟩ := id lh
  obtain ⟨lv1, lv2, lv3, lv4⟩ := id lv
  obtain ⟨lw, hlw, klw, llw⟩ := hs.row kx 4 41 60 (by decide) (by decide)
  obtain ⟨kn, hkn, kkn, lkn⟩ := hs.row kx 6 43 6 (by decide) (by decide)
  obtain ⟨cr, hcr, kcr1, lcr⟩ := hs.row kx 5 44 6 (by decide) (by decide)
  have ka : KA x h lk rd K len R := ⟨⟨_, hs⟩, hu, kx, kh, klk, krd⟩
  have rdb9 := hs.rng krd (k := 0) rfl (x := I rd 0) rfl
  obtain ⟨tl, htl, ktl, ltl⟩ := hs.row kx 7 41 60 (by decide) (by decide)
  obtain ⟨lrw, hlrw, klrw, llrw⟩ := hs.row km 15 85 60 (by decide) (by decide)
  have nlt : lw ≠ tl := hu.ne hlw htl (by rw [klw]; decide) (Or.inr (by decide))
  refine r_aload_n hC dL_law_563 1 rfl ?_
  refine r_callV hC (As := []) (rest := []) (ci := 8) (f_X8_forget g (xL X) K len I J R hs x kx  rd hrd krd) mT_3_218 mT_1_1 mT_3_215 mT_3_216 mT_3_217 okX8_forget ⟨by decide, by decide⟩ rfl (by show kO (K x) = _; rw [kx]; rfl) rfl rfl (Nat.le_of_ble_eq_true rfl) ⟨Nat.le_trans (show cn + 0 ≤ cn + 18 from Nat.add_le_add_left (by decide) cn) hcn, Nat.le_trans (show sn + 0 ≤ sn + 231 from Nat.add_le_add_left (by decide) sn) hsn⟩ dL_law_564 (aI1 (F := fun st M => P g X 7 567 [(0, .ref b), (1, .ref x), (2, .ref m), (3, .ref o), (4, .int i)] st _ _ M) (M := (K, len, I, J, R)) fun x1_ I1 h1 => ?_)
  obtain ⟨hs1, hf1, k1_0, k1_1⟩ := h1
  show P g X 7 567 [(0, .ref b), (1, .ref x), (2, .ref m), (3, .ref o), (4, .int i)] [.int x1_] cn sn (K, len, I1, J, R)
  refine r_pop hC dL_law_567 rfl ?_
  refine r_aload_n hC dL_law_568 2 rfl ?_
  refine r_callV hC (As := []) (rest := []) (ci := 10) (f_X10_forget g (xL X) K len I1 J R hs1 m km ) mT_6_176 mT_1_10 mT_6_173 mT_6_174 mT_6_175 okX10_forget ⟨by decide, by decide⟩ rfl (by show kO (K m) = _; rw [km]; rfl) rfl rfl (Nat.le_of_ble_eq_true rfl) ⟨Nat.le_trans (show cn + 0 ≤ cn + 18 from Nat.add_le_add_left (by decide) cn) hcn, Nat.le_trans (show sn + 0 ≤ sn + 231 from Nat.add_le_add_left (by decide) sn) hsn⟩ dL_law_569 (aI1 (F := fun st M => P g X 7 572 [(0, .ref b), (1, .ref x), (2, .ref m), (3, .ref o), (4, .int i)] st _ _ M) (M := (K, len, I1, J, R)) fun x2_ I2 h2 => ?_)
  obtain ⟨hs2, hf2, k2_0, k2_1⟩ := h2
  show P g X 7 572 [(0, .ref b), (1, .ref x), (2, .ref m), (3, .ref o), (4, .int i)] [.int x2_] cn sn (K, len, I2, J, R)
  have lbv := LBV.sil la lb lv hf1 hf2 rfl rfl rfl rfl rfl rfl
  have t_h1 : (I2 h 1).toInt = (I h 1).toInt := congrArg Int32.toInt ((hf2.get kh rfl).trans (hf1.get kh rfl))
  have t_h4 : (I2 h 4).toInt = (I h 4).toInt := congrArg Int32.toInt ((hf2.get kh rfl).trans (hf1.get kh rfl))
  have t_h6 : (I2 h 6).toInt = (I h 6).toInt := congrArg Int32.toInt ((hf2.get kh rfl).trans (hf1.get kh rfl))
  have t_h8 : (I2 h 8).toInt = (I h 8).toInt := congrArg Int32.toInt ((hf2.get kh rfl).trans (hf1.get kh rfl))
  have t_h12 : (I2 h 12).toInt = (I h 12).toInt := congrArg Int32.toInt ((hf2.get kh rfl).trans (hf1.get kh rfl))
  have t_lk1 : (I2 lk 1).toInt = (I lk 1).toInt := congrArg Int32.toInt ((hf2.get klk rfl).trans (hf1.get klk rfl))
  have t_lk3 : (I2 lk 3).toInt = (I lk 3).toInt := congrArg Int32.toInt ((hf2.get klk rfl).trans (hf1.get klk rfl))
  have t_lk4 : (I2 lk 4).toInt = (I lk 4).toInt := congrArg Int32.toInt ((hf2.get klk rfl).trans (hf1.get klk rfl))
  have t_lk5 : (I2 lk 5).toInt = (I lk 5).toInt := congrArg Int32.toInt ((hf2.get klk rfl).trans (hf1.get klk rfl))
  have t_rd0 : (I2 rd 0).toInt = (I1 rd 0).toInt := congrArg Int32.toInt (hf2.get krd rfl)
  have t_m20 : (I1 m 20).toInt = (I m 20).toInt := congrArg Int32.toInt (hf1.get km rfl)
  have lrn : LR h lk rd m K I2 R := by
    rcases lr.2 with ⟨r3, n1, n2, n3, n4, n5, n6, n7, n8, n9, nr0⟩ | ⟨hm, r3, khm, m0, m1, m2, m3, m4, m5, m6, m7, m8, m9⟩
    · exact ⟨(t_rd0.trans k1_1).trans k2_1.symm, Or.inl ⟨r3, t_h1.trans n1, t_h4.trans n2, t_h6.trans n3, t_h8.trans n4, t_h12.trans n5, t_lk1.trans n6, t_lk3.trans n7, t_lk4.trans n8, t_lk5.trans n9, t_rd0.trans k1_1⟩⟩
    · have t_h1 : (I2 h 1).toInt = (I h 1).toInt := congrArg Int32.toInt ((hf2.get kh rfl).trans (hf1.get kh rfl))
      have t_h4 : (I2 h 4).toInt = (I h 4).toInt := congrArg Int32.toInt ((hf2.get kh rfl).trans (hf1.get kh rfl))
      have t_h6 : (I2 h 6).toInt = (I h 6).toInt := congrArg Int32.toInt ((hf2.get kh rfl).trans (hf1.get kh rfl))
      have t_h8 : (I2 h 8).toInt = (I h 8).toInt := congrArg Int32.toInt ((hf2.get kh rfl).trans (hf1.get kh rfl))
      have t_h12 : (I2 h 12).toInt = (I h 12).toInt := congrArg Int32.toInt ((hf2.get kh rfl).trans (hf1.get kh rfl))
      have t_lk1 : (I2 lk 1).toInt = (I lk 1).toInt := congrArg Int32.toInt ((hf2.get klk rfl).trans (hf1.get klk rfl))
      have t_lk3 : (I2 lk 3).toInt = (I lk 3).toInt := congrArg Int32.toInt ((hf2.get klk rfl).trans (hf1.get klk rfl))
      have t_lk4 : (I2 lk 4).toInt = (I lk 4).toInt := congrArg Int32.toInt ((hf2.get klk rfl).trans (hf1.get klk rfl))
      have t_lk5 : (I2 lk 5).toInt = (I lk 5).toInt := congrArg Int32.toInt ((hf2.get klk rfl).trans (hf1.get klk rfl))
      have t_rd0 : (I2 rd 0).toInt = (I1 rd 0).toInt := congrArg Int32.toInt (hf2.get krd rfl)
      have t_m20 : (I1 m 20).toInt = (I m 20).toInt := congrArg Int32.toInt (hf1.get km rfl)
      have t_hm0 : (I2 hm 0).toInt = (I hm 0).toInt := congrArg Int32.toInt ((hf2.get khm rfl).trans (hf1.get khm rfl))
      have t_hm2 : (I2 hm 2).toInt = (I hm 2).toInt := congrArg Int32.toInt ((hf2.get khm rfl).trans (hf1.get khm rfl))
      have t_hm3 : (I2 hm 3).toInt = (I hm 3).toInt := congrArg Int32.toInt ((hf2.get khm rfl).trans (hf1.get khm rfl))
      have t_hm4 : (I2 hm 4).toInt = (I hm 4).toInt := congrArg Int32.toInt ((hf2.get khm rfl).trans (hf1.get khm rfl))
      have t_hm5 : (I2 hm 5).toInt = (I hm 5).toInt := congrArg Int32.toInt ((hf2.get khm rfl).trans (hf1.get khm rfl))
      have t_hm6 : (I2 hm 6).toInt = (I hm 6).toInt := congrArg Int32.toInt ((hf2.get khm rfl).trans (hf1.get khm rfl))
      have t_hm7 : (I2 hm 7).toInt = (I hm 7).toInt := congrArg Int32.toInt ((hf2.get khm rfl).trans (hf1.get khm rfl))
      have t_hm8 : (I2 hm 8).toInt = (I hm 8).toInt := congrArg Int32.toInt ((hf2.get khm rfl).trans (hf1.get khm rfl))
      have t_hm9 : (I2 hm 9).toInt = (I hm 9).toInt := congrArg Int32.toInt ((hf2.get khm rfl).trans (hf1.get khm rfl))
      exact ⟨(t_rd0.trans k1_1).trans k2_1.symm, Or.inr ⟨hm, r3, khm, by rw [t_h6]; exact m0, t_h1.trans (m1.trans t_hm3.symm), t_h4.trans (m2.trans t_hm6.symm), t_h6.trans (m3.trans t_hm7.symm), t_h8.trans (m4.trans t_hm8.symm), t_h12.trans (m5.trans t_hm9.symm), t_lk1.trans (m6.trans t_hm0.symm), t_lk3.trans (m7.trans t_hm2.symm), t_lk4.trans (m8.trans t_hm4.symm), by rw [t_lk5, t_hm4, t_hm5]; exact m9⟩⟩
  have eqv : x1_.toInt = x2_.toInt := k1_0.trans (lr.1.trans (t_m20.symm.trans k2_0.symm))
  have lcn : LC x h lk rd m K I2 R := ⟨hu, DA, (lcb.mv hu hs kx hf1 kh klk rfl).mv hu hs kx hf2 kh klk rfl, EA, (kc.rdx ka hf1 rfl (E' := EA) ⟨fun r j a2 hr ha hj => by exfalso; have h9 := k1_1; omega, fun j hj => by exfalso; have h9 := k1_1; omega⟩).mv ka hf2 rfl, fun r j a2 hr ha hj => by exfalso; have h9 := k2_1; omega⟩
  refine r_pop hC dL_law_572 rfl ?_
  refine r_goto hC (tgt := 1253) dL_law_573 (by decide) ?_
  refine r_sub [0, 1, 2, 3, 4] rfl ?_
  refine r_widen hC (k2 := cn + 18) (n2 := sn + 231) (Nat.le_add_right _ _) (Nat.le_add_right _ _) ?_
  exact kk K len I2 J R ⟨hs2, la, ⟨h, s, lk, ls, lh, lrn, lcn⟩, lbv⟩

