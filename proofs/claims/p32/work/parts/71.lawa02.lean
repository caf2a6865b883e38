set_option maxHeartbeats 4000000 in
set_option maxRecDepth 100000 in
theorem law_3 {g : GG} {X : XT} {b L : Nat} {xs : Nat → Int32} (hX : LX g X b L xs) {x m o tp bt te tk nr pr rd mt cn sn : Nat} {i : Int32} {K len : Nat → Nat} {I : Nat → Nat → Int32} {J : Nat → Nat → Int64} {R : Nat → Nat → Option Nat} (hI : LI x m o tp bt te tk nr pr rd mt K len I R) (hi : 0 ≤ i.toInt) (hiL : i.toInt + 6 ≤ L) (hcn : cn + 18 ≤ 601024) (hsn : sn + 231 ≤ 7293034) (kk : ∀ K' len' I' J' R', LI x m o tp bt te tk nr pr rd mt K' len' I' R' → P g X 7 1253 [(0, .ref b), (1, .ref x), (2, .ref m), (3, .ref o), (4, .int i)] [] (cn + 18) (sn + 231) (K', len', I', J', R')) : P g X 7 303 [(0, .ref b), (1, .ref x), (2, .ref m), (3, .ref o), (4, .int i)] [] cn sn (K, len, I, J, R) := by
  obtain ⟨hC, hcs, hl, hXs, hb, hbA, hL⟩ := hX
  obtain ⟨hs, la, ⟨h, s, lk, ls, lh, lr, lc⟩, lb, lv⟩ := id hI
  obtain ⟨hu, DA, lcb, EA, kc, rdm⟩ := id lc
  obtain ⟨rwd, scd, lcm⟩ := id lcb
  obtain ⟨sd1, sd2, sd3, sd4, sd5, sd7, sd8, sd9⟩ := id scd
  obtain ⟨kx, km, ⟨ko, no⟩, ⟨htp, ktp⟩, ⟨hbb, kbt, nbt⟩, ⟨hte, kte⟩, ⟨htk, ktk⟩, hbt, ⟨hnr, knr, lnr⟩, ⟨hpr, kpr, lpr⟩, ⟨hrd, krd⟩, ⟨hmt, kmt, nmt⟩⟩ := id la
  obtain ⟨⟨hh, kh⟩, ⟨hs2, ks⟩, ⟨hlk2, klk⟩, ⟨hls, kls⟩, nhs, nls⟩ := id lh
  obtain ⟨lv1, lv2, lv3, lv4⟩ := id lv
  obtain ⟨lw, hlw, klw, llw⟩ := hs.row kx 4 41 60 (by decide) (by decide)
  obtain ⟨kn, hkn, kkn, lkn⟩ := hs.row kx 6 43 6 (by decide) (by decide)
  obtain ⟨cr, hcr, kcr1, lcr⟩ := hs.row kx 5 44 6 (by decide) (by decide)
  have ka : KA x h lk rd K len R := ⟨⟨_, hs⟩, hu, kx, kh, klk, krd⟩
  have rdb9 := hs.rng krd (k := 0) rfl (x := I rd 0) rfl
  obtain ⟨tl, htl, ktl, ltl⟩ := hs.row kx 7 41 60 (by decide) (by decide)
  obtain ⟨lrw, hlrw, klrw, llrw⟩ := hs.row km 15 85 60 (by decide) (by decide)
  have nlt : lw ≠ tl := hu.ne hlw htl (by rw [klw]; decide) (Or.inr (by decide))
  refine r_aload_n hC dL_law_303 1 rfl ?_
  refine r_callV hC (As := []) (rest := []) (ci := 8) (f_X8_where g (xL X) K len I J R hs x kx  te hte kte) mT_3_123 mT_1_1 mT_3_120 mT_3_121 mT_3_122 okX8_where ⟨by decide, by decide⟩ rfl (by show kO (K x) = _; rw [kx]; rfl) rfl rfl (Nat.le_of_ble_eq_true rfl) ⟨Nat.le_trans (show cn + 0 ≤ cn + 18 from Nat.add_le_add_left (by decide) cn) hcn, Nat.le_trans (show sn + 0 ≤ sn + 231 from Nat.add_le_add_left (by decide) sn) hsn⟩ dL_law_304 (aI0 (F := fun st M => P g X 7 307 [(0, .ref b), (1, .ref x), (2, .ref m), (3, .ref o), (4, .int i)] st _ _ M) (M := (K, len, I, J, R)) fun x1_  h1 => ?_)
  have k1_0 := h1
  show P g X 7 307 [(0, .ref b), (1, .ref x), (2, .ref m), (3, .ref o), (4, .int i)] [.int x1_] cn sn (K, len, I, J, R)
  refine r_pop hC dL_law_307 rfl ?_
  refine r_aload_n hC dL_law_308 2 rfl ?_
  refine r_callV hC (As := []) (rest := []) (ci := 10) (f_X10_where g (xL X) K len I J R hs m km ) mT_6_87 mT_1_10 mT_6_84 mT_6_85 mT_6_86 okX10_where ⟨by decide, by decide⟩ rfl (by show kO (K m) = _; rw [km]; rfl) rfl rfl (Nat.le_of_ble_eq_true rfl) ⟨Nat.le_trans (show cn + 0 ≤ cn + 18 from Nat.add_le_add_left (by decide) cn) hcn, Nat.le_trans (show sn + 0 ≤ sn + 231 from Nat.add_le_add_left (by decide) sn) hsn⟩ dL_law_309 (aI1 (F := fun st M => P g X 7 312 [(0, .ref b), (1, .ref x), (2, .ref m), (3, .ref o), (4, .int i)] st _ _ M) (M := (K, len, I, J, R)) fun x2_ I2 h2 => ?_)
  obtain ⟨hs2, hf2, k2_0⟩ := h2
  show P g X 7 312 [(0, .ref b), (1, .ref x), (2, .ref m), (3, .ref o), (4, .int i)] [.int x2_] cn sn (K, len, I2, J, R)
  refine r_pop hC dL_law_312 rfl ?_
  refine r_goto hC (tgt := 1253) dL_law_313 (by decide) ?_
  refine r_sub [0, 1, 2, 3, 4] rfl ?_
  refine r_widen hC (k2 := cn + 18) (n2 := sn + 231) (by omega) (by omega) ?_
  exact kk K len I2 J R (hI.sil hs2 (Fr.refl (l := [])) hf2 rfl rfl rfl rfl rfl rfl rfl rfl rfl rfl)
set_option maxHeartbeats 4000000 in
set_option maxRecDepth 100000 in
theorem law_4 {g : GG} {X : XT} {b L : Nat} {xs : Nat → Int32} (hX : LX g X b L xs) {x m o tp bt te tk nr pr rd mt cn sn : Nat} {i : Int32} {K len : Nat → Nat} {I : Nat → Nat → Int32} {J : Nat → Nat → Int64} {R : Nat → Nat → Option Nat} (hI : LI x m o tp bt te tk nr pr rd mt K len I R) (hi : 0 ≤ i.toInt) (hiL : i.toInt + 6 ≤ L) (hcn : cn + 18 ≤ 601024) (hsn : sn + 231 ≤ 7293034) (kk : ∀ K' len' I' J' R', LI x m o tp bt te tk nr pr rd mt K' len' I' R' → P g X 7 1253 [(0, .ref b), (1, .ref x), (2, .ref m), (3, .ref o), (4, .int i)] [] (cn + 18) (sn + 231) (K', len', I', J', R')) : P g X 7 316 [(0, .ref b), (1, .ref x), (2, .ref m), (3, .ref o), (4, .int i)] [] cn sn (K, len, I, J, R) := by
  obtain ⟨hC, hcs, hl, hXs, hb, hbA, hL⟩ := hX
  obtain ⟨hs, la, ⟨h, s, lk, ls, lh, lr, lc⟩, lb, lv⟩ := id hI
  obtain ⟨hu, DA, lcb, EA, kc, rdm⟩ := id lc
  obtain ⟨rwd, scd, lcm⟩ := id lcb
  obtain ⟨sd1, sd2, sd3, sd4, sd5, sd7, sd8, sd9⟩ := id scd
  obtain ⟨kx, km, ⟨ko, no⟩, ⟨htp, ktp⟩, ⟨hbb, kbt, nbt⟩, ⟨hte, kte⟩, ⟨htk, ktk⟩, hbt, ⟨hnr, knr, lnr⟩, ⟨hpr, kpr, lpr⟩, ⟨hrd, krd⟩, ⟨hmt, kmt, nmt⟩⟩ := id la
  obtain ⟨⟨hh, kh⟩, ⟨hs2, ks⟩, ⟨hlk2, klk⟩, ⟨hls, kls⟩, nhs, nls⟩ := id lh
  obtain ⟨lv1, lv2, lv3, lv4⟩ := id lv
  obtain ⟨lw, hlw, klw, llw⟩ := hs.row kx 4 41 60 (by decide) (by decide)
  obtain ⟨kn, hkn, kkn, lkn⟩ := hs.row kx 6 43 6 (by decide) (by decide)
  obtain ⟨cr, hcr, kcr1, lcr⟩ := hs.row kx 5 44 6 (by decide) (by decide)
  have ka : KA x h lk rd K len R := ⟨⟨_, hs⟩, hu, kx, kh, klk, krd⟩
  have rdb9 := hs.rng krd (k := 0) rfl (x := I rd 0) rfl
  obtain ⟨tl, htl, ktl, ltl⟩ := hs.row kx 7 41 60 (by decide) (by decide)
  obtain ⟨lrw, hlrw, klrw, llrw⟩ := hs.row km 15 85 60 (by decide) (by decide)
  have nlt : lw ≠ tl := hu.ne hlw htl (by rw [klw]; decide) (Or.inr (by decide))
  refine r_aload_n hC dL_law_316 1 rfl ?_
  refine r_aload_n hC dL_law_317 0 rfl ?_
  refine r_iload hC dL_law_318 4 rfl ?_
  refine r_iconst hC (v := (1)) dL_law_320 (by decide) (by decide) (fun x1_ e1 t1 => ?_)
  refine r_iadd hC dL_law_321 (fun x2_ e2 => ?_)
  have t2 : x2_.toInt = i.toInt + 1 := sAd e2 t1 (by decide) (by decide) hi hiL hL
  refine r_sld hC hXs hb hbA (sLo t2 (by decide) hi) (sHi t2 (by decide) hiL) dL_law_322 (fun x3_ e3 => ?_)
  refine r_callV hC (As := [.int x3_]) (rest := []) (ci := 8) (f_X8_level g (xL X) K len I J R hs x kx x3_ h hh kh lw hlw klw llw DA (fun z => by rcases lr.2 with ⟨r3, n1, n2, n3, -⟩ | ⟨hm, r3, -⟩; exact absurd n3 z; exact (lcm hm r3).2.2.2.2 lw hlw)) mT_3_127 mT_1_1 mT_3_124 mT_3_125 mT_3_126 okX8_level ⟨by decide, by decide⟩ rfl (by show kO (K x) = _; rw [kx]; rfl) rfl rfl (Nat.le_of_ble_eq_true rfl) ⟨Nat.le_trans (show cn + 0 ≤ cn + 18 from Nat.add_le_add_left (by decide) cn) hcn, Nat.le_trans (show sn + 0 ≤ sn + 231 from Nat.add_le_add_left (by decide) sn) hsn⟩ dL_law_323 (aI1 (F := fun st M => P g X 7 326 [(0, .ref b), (1, .ref x), (2, .ref m), (3, .ref o), (4, .int i)] st _ _ M) (M := (K, len, I, J, R)) fun x4_ I4 h4 => ?_)
  obtain ⟨hs4, hf4, k4_0, k4_1⟩ := h4
  show P g X 7 326 [(0, .ref b), (1, .ref x), (2, .ref m), (3, .ref o), (4, .int i)] [.int x4_] cn sn (K, len, I4, J, R)
  refine r_pop hC dL_law_326 rfl ?_
  refine r_aload_n hC dL_law_327 2 rfl ?_
  refine r_aload_n hC dL_law_328 0 rfl ?_
  refine r_iload hC dL_law_329 4 rfl ?_
  refine r_iconst hC (v := (1)) dL_law_331 (by decide) (by decide) (fun x5_ e5 t5 => ?_)
  refine r_iadd hC dL_law_332 (fun x6_ e6 => ?_)
  have t6 : x6_.toInt = i.toInt + 1 := sAd e6 t5 (by decide) (by decide) hi hiL hL
  refine r_sld hC hXs hb hbA (sLo t6 (by decide) hi) (sHi t6 (by decide) hiL) dL_law_333 (fun x7_ e7 => ?_)
  obtain rfl : x3_ = x7_ := sld_eq e3 e7 (t2.trans t6.symm)
  refine r_callV hC (As := [.int x3_]) (rest := []) (ci := 10) (f_X10_level g (xL X) K len I4 J R hs4 m km x3_ DA (fun hm z => by obtain ⟨z1, z2, z3, z4, z5⟩ := lcm hm z; exact ⟨z2, z3.mv (CM_x hs z1) qM_big hf4 rfl, (by rw [hf4.get z1 rfl]; exact z4.1), (by rw [hf4.get z1 rfl]; exact z4.2.1), (by rw [hf4.get z1 rfl]; exact z4.2.2.1), (by rw [hf4.get z1 rfl]; exact z4.2.2.2.1)⟩) lrw hlrw klrw llrw) mT_6_91 mT_1_10 mT_6_88 mT_6_89 mT_6_90 okX10_level ⟨by decide, by decide⟩ rfl (by show kO (K m) = _; rw [km]; rfl) rfl rfl (Nat.le_of_ble_eq_true rfl) ⟨Nat.le_trans (show cn + 0 ≤ cn + 18 from Nat.add_le_add_left (by decide) cn) hcn, Nat.le_trans (show sn + 0 ≤ sn + 231 from Nat.add_le_add_left (by decide) sn) hsn⟩ dL_law_334 (aI1 (F := fun st M => P g X 7 337 [(0, .ref b), (1, .ref x), (2, .ref m), (3, .ref o), (4, .int i)] st _ _ M) (M := (K, len, I4, J, R)) fun x8_ I8 h8 => ?_)
  obtain ⟨hs8, hf8, k8_0, k8_1⟩ := h8
  show P g X 7 337 [(0, .ref b), (1, .ref x), (2, .ref m), (3, .ref o), (4, .int i)] [.int x8_] cn sn (K, len, I8, J, R)
  have eqv : x4_.toInt = x8_.toInt := by
    rcases k8_0 with ⟨z9, y9⟩ | ⟨hm9, z9, y9⟩
    · rcases lr.2 with ⟨r3, n1, n2, n3, n4, n5, n6, n7, n8, n9, nr0⟩ | ⟨hm, r3, khm, m0, m1, m2, m3, m4, m5, m6, m7, m8, m9⟩
      · rcases k4_0 with ⟨w1, w2⟩ | ⟨w1, w2⟩
        · exact absurd n3 w1.1
        · rw [w2, y9]
      · rw [r3] at z9; cases z9
    · rcases lr.2 with ⟨r3, n1, n2, n3, n4, n5, n6, n7, n8, n9, nr0⟩ | ⟨hm, r3, khm, m0, m1, m2, m3, m4, m5, m6, m7, m8, m9⟩
      · rw [r3] at z9; cases z9
      · rcases k4_0 with ⟨w1, w2⟩ | ⟨w1, w2⟩
        · exact eq_two (Or.inl ⟨w1.2, w2⟩) y9
        · exact eq_two (Or.inr ⟨fun z => w1 ⟨by have h8 := m0; omega, z⟩, w2⟩) y9
  refine r_pop hC dL_law_337 rfl ?_
  refine r_goto hC (tgt := 1253) dL_law_338 (by decide) ?_
  refine r_sub [0, 1, 2, 3, 4] rfl ?_
  refine r_widen hC (k2 := cn + 18) (n2 := sn + 231) (by omega) (by omega) ?_
  exact kk K len I8 J R (hI.ref hs8 hf4 hf8 rfl rfl rfl rfl rfl rfl rfl k4_1 k8_1)
set_option maxHeartbeats 4000000 in
set_option maxRecDepth 100000 in
theorem law_5 {g : GG} {X : XT} {b L : Nat} {xs : Nat → Int32} (hX : LX g X b L xs) {x m o tp bt te tk nr pr rd mt cn sn : Nat} {i : Int32} {K len : Nat → Nat} {I : Nat → Nat → Int32} {J : Nat → Nat → Int64} {R : Nat → Nat → Option Nat} (hI : LI x m o tp bt te tk nr pr rd mt K len I R) (hi : 0 ≤ i.toInt) (hiL : i.toInt + 6 ≤ L) (hcn : cn + 18 ≤ 601024) (hsn : sn + 231 ≤ 7293034) (kk : ∀ K' len' I' J' R', LI x m o tp bt te tk nr pr rd mt K' len' I' R' → P g X 7 1253 [(0, .ref b), (1, .ref x), (2, .ref m), (3, .ref o), (4, .int i)] [] (cn + 18) (sn + 231) (K', len', I', J', R')) : P g X 7 341 [(0, .ref b), (1, .ref x), (2, .ref m), (3, .ref o), (4, .int i)] [] cn sn (K, len, I, J, R) := by
  obtain ⟨hC, hcs, hl, hXs, hb, hbA, hL⟩ := hX
  obtain ⟨hs, la, ⟨h, s, lk, ls, lh, lr, lc⟩, lb, lv⟩ := id hI
  obtain ⟨hu, DA, lcb, EA, kc, rdm⟩ := id lc
  obtain ⟨rwd, scd, lcm⟩ := id lcb
  obtain ⟨sd1, sd2, sd3, sd4, sd5, sd7, sd8, sd9⟩ := id scd
  obtain ⟨kx, km, ⟨ko, no⟩, ⟨htp, ktp⟩, ⟨hbb, kbt, nbt⟩, ⟨hte, kte⟩, ⟨htk, ktk⟩, hbt, ⟨hnr, knr, lnr⟩, ⟨hpr, kpr, lpr⟩, ⟨hrd, krd⟩, ⟨hmt, kmt, nmt⟩⟩ := id la
  obtain ⟨⟨hh, kh⟩, ⟨hs2, ks⟩, ⟨hlk2, klk⟩, ⟨hls, kls⟩, nhs, nls⟩ := id lh
  obtain ⟨lv1, lv2, lv3, lv4⟩ := id lv
  obtain ⟨lw, hlw, klw, llw⟩ := hs.row kx 4 41 60 (by decide) (by decide)
  obtain ⟨kn, hkn, kkn, lkn⟩ := hs.row kx 6 43 6 (by decide) (by decide)
  obtain ⟨cr, hcr, kcr1, lcr⟩ := hs.row kx 5 44 6 (by decide) (by decide)
  have ka : KA x h lk rd K len R := ⟨⟨_, hs⟩, hu, kx, kh, klk, krd⟩
  have rdb9 := hs.rng krd (k := 0) rfl (x := I rd 0) rfl
  obtain ⟨tl, htl, ktl, ltl⟩ := hs.row kx 7 41 60 (by decide) (by decide)
  obtain ⟨lrw, hlrw, klrw, llrw⟩ := hs.row km 15 85 60 (by decide) (by decide)
  have nlt : lw ≠ tl := hu.ne hlw htl (by rw [klw]; decide) (Or.inr (by decide))
  refine r_aload_n hC dL_law_341 1 rfl ?_
  refine r_aload_n hC dL_law_342 0 rfl ?_
  refine r_iload hC dL_law_343 4 rfl ?_
  refine r_iconst hC (v := (1)) dL_law_345 (by decide) (by decide) (fun x1_ e1 t1 => ?_)
  refine r_iadd hC dL_law_346 (fun x2_ e2 => ?_)
  have t2 : x2_.toInt = i.toInt + 1 := sAd e2 t1 (by decide) (by decide) hi hiL hL
  refine r_sld hC hXs hb hbA (sLo t2 (by decide) hi) (sHi t2 (by decide) hiL) dL_law_347 (fun x3_ e3 => ?_)
  refine r_aload_n hC dL_law_348 0 rfl ?_
  refine r_iload hC dL_law_349 4 rfl ?_
  refine r_iconst hC (v := (2)) dL_law_351 (by decide) (by decide) (fun x4_ e4 t4 => ?_)
  refine r_iadd hC dL_law_352 (fun x5_ e5 => ?_)
  have t5 : x5_.toInt = i.toInt + 2 := sAd e5 t4 (by decide) (by decide) hi hiL hL
  refine r_sld hC hXs hb hbA (sLo t5 (by decide) hi) (sHi t5 (by decide) hiL) dL_law_353 (fun x6_ e6 => ?_)
  refine r_callV hC (As := [.int x3_, .int x6_]) (rest := []) (ci := 8) (n_X8_plan g (xL X) K len I J R hs x kx x3_ x6_ h hh kh lk hlk2 klk hu DA rwd sd4 sd1 sd2 sd3 lw hlw klw llw kn hkn kkn lkn (fun z => by rcases lr.2 with ⟨r3, n1, n2, n3, -⟩ | ⟨hm, r3, -⟩; exact absurd n3 z; exact (lcm hm r3).2.1)) mT_3_138 mT_1_1 mT_3_135 mT_3_136 mT_3_137 okX8_plan ⟨by decide, by decide⟩ rfl (by show kO (K x) = _; rw [kx]; rfl) rfl rfl (Nat.le_of_ble_eq_true rfl) ⟨Nat.le_trans (show cn + 0 ≤ cn + 18 from Nat.add_le_add_left (by decide) cn) hcn, Nat.le_trans (show sn + 0 ≤ sn + 231 from Nat.add_le_add_left (by decide) sn) hsn⟩ dL_law_354 (aI1 (F := fun st M => P g X 7 357 [(0, .ref b), (1, .ref x), (2, .ref m), (3, .ref o), (4, .int i)] st _ _ M) (M := (K, len, I, J, R)) fun x7_ I7 h7 => ?_)
  obtain ⟨hs7, hf7, k7_0, k7_1, k7_2, k7_3, k7_4⟩ := h7
  show P g X 7 357 [(0, .ref b), (1, .ref x), (2, .ref m), (3, .ref o), (4, .int i)] [.int x7_] cn sn (K, len, I7, J, R)
  refine r_pop hC dL_law_357 rfl ?_
  refine r_aload_n hC dL_law_358 2 rfl ?_
  refine r_aload_n hC dL_law_359 0 rfl ?_
  refine r_iload hC dL_law_360 4 rfl ?_
  refine r_iconst hC (v := (1)) dL_law_362 (by decide) (by decide) (fun x8_ e8 t8 => ?_)
  refine r_iadd hC dL_law_363 (fun x9_ e9 => ?_)
  have t9 : x9_.toInt = i.toInt + 1 := sAd e9 t8 (by decide) (by decide) hi hiL hL
  refine r_sld hC hXs hb hbA (sLo t9 (by decide) hi) (sHi t9 (by decide) hiL) dL_law_364 (fun x10_ e10 => ?_)
  obtain rfl : x3_ = x10_ := sld_eq e3 e10 (t2.trans t9.symm)
  refine r_aload_n hC dL_law_365 0 rfl ?_
  refine r_iload hC dL_law_366 4 rfl ?_
  refine r_iconst hC (v := (2)) dL_law_368 (by decide) (by decide) (fun x11_ e11 t11 => ?_)
  refine r_iadd hC dL_law_369 (fun x12_ e12 => ?_)
  have t12 : x12_.toInt = i.toInt + 2 := sAd e12 t11 (by decide) (by decide) hi hiL hL
  refine r_sld hC hXs hb hbA (sLo t12 (by decide) hi) (sHi t12 (by decide) hiL) dL_law_370 (fun x13_ e13 => ?_)
  obtain rfl : x6_ = x13_ := sld_eq e6 e13 (t5.trans t12.symm)
  refine r_callV hC (As := [.int x3_, .int x6_]) (rest := []) (ci := 10) (f_X10_plan g (xL X) K len I7 J R hs7 m km x3_ x6_ DA (fun hm z => by obtain ⟨z1, z2, z3, z4, z5⟩ := lcm hm z; exact ⟨z3.mv (CM_x hs z1) qM_big hf7 rfl, by rw [hf7.get z1 rfl]; exact z4.2.2.2.1⟩)) mT_6_107 mT_1_10 mT_6_104 mT_6_105 mT_6_106 okX10_plan ⟨by decide, by decide⟩ rfl (by show kO (K m) = _; rw [km]; rfl) rfl rfl (Nat.le_of_ble_eq_true rfl) ⟨Nat.le_trans (show cn + 0 ≤ cn + 18 from Nat.add_le_add_left (by decide) cn) hcn, Nat.le_trans (show sn + 0 ≤ sn + 231 from Nat.add_le_add_left (by decide) sn) hsn⟩ dL_law_371 (aI1 (F := fun st M => P g X 7 374 [(0, .ref b), (1, .ref x), (2, .ref m), (3, .ref o), (4, .int i)] st _ _ M) (M := (K, len, I7, J, R)) fun x14_ I14 h14 => ?_)
  obtain ⟨hs14, hf14, k14_0, k14_1, k14_2⟩ := h14
  show P g X 7 374 [(0, .ref b), (1, .ref x), (2, .ref m), (3, .ref o), (4, .int i)] [.int x14_] cn sn (K, len, I14, J, R)
  have lbv := LBV.ref la lb lv hf7 hf14 rfl rfl rfl k7_4 k14_2
  have t_h1 : (I14 h 1).toInt = (I h 1).toInt := congrArg Int32.toInt ((hf14.get kh rfl).trans (hf7.get kh rfl))
  have t_h4 : (I14 h 4).toInt = (I h 4).toInt := congrArg Int32.toInt ((hf14.get kh rfl).trans (hf7.get kh rfl))
  have t_h6 : (I14 h 6).toInt = (I h 6).toInt := congrArg Int32.toInt ((hf14.get kh rfl).trans (hf7.get kh rfl))
  have t_h8 : (I14 h 8).toInt = (I h 8).toInt := congrArg Int32.toInt ((hf14.get kh rfl).trans (hf7.get kh rfl))
  have t_h12 : (I14 h 12).toInt = (I h 12).toInt := congrArg Int32.toInt ((hf14.get kh rfl).trans (hf7.get kh rfl))
  have t_lk1 : (I14 lk 1).toInt = (I lk 1).toInt := congrArg Int32.toInt ((hf14.get klk rfl).trans (hf7.get klk rfl))
  have t_lk3 : (I14 lk 3).toInt = (I lk 3).toInt := congrArg Int32.toInt ((hf14.get klk rfl).trans (hf7.get klk rfl))
  have t_lk4 : (I14 lk 4).toInt = (I7 lk 4).toInt := congrArg Int32.toInt (hf14.get klk rfl)
  have t_lk5 : (I14 lk 5).toInt = (I7 lk 5).toInt := congrArg Int32.toInt (hf14.get klk rfl)
  have t_rd0 : (I14 rd 0).toInt = (I rd 0).toInt := congrArg Int32.toInt ((hf14.get krd rfl).trans (hf7.get krd rfl))
  have t_m20 : (I14 m 20).toInt = (I m 20).toInt := congrArg Int32.toInt ((hf14.get km rfl).trans (hf7.get km rfl))
  rcases lr.2 with ⟨r3, n1, n2, n3, n4, n5, n6, n7, n8, n9, nr0⟩ | ⟨hm, r3, khm, m0, m1, m2, m3, m4, m5, m6, m7, m8, m9⟩
  · have pq := k14_0
    rcases pq with ⟨-, pq⟩ | ⟨hm9, z9, -⟩
    rotate_left
    · rw [r3] at z9; cases z9
    have ip := int_planN n3 k7_0
    have lrn : LR h lk rd m K I14 R := ⟨t_rd0.trans (lr.1.trans t_m20.symm), Or.inl ⟨r3, t_h1.trans n1, t_h4.trans n2, t_h6.trans n3, t_h8.trans n4, t_h12.trans n5, t_lk1.trans n6, t_lk3.trans n7, t_lk4.trans (ip.2.1.trans n8), t_lk5.trans (ip.2.2.trans n9), t_rd0.trans nr0⟩⟩
    have lcn : LC x h lk rd m K I14 R := by
      by_cases hc8 : (I h 6).toInt ≠ 0 ∧ 0 ≤ x3_.toInt ∧ x3_.toInt ≤ 59 ∧ 0 ≤ x6_.toInt ∧ x6_.toInt ≤ 999 ∧ (I lk 4).toInt < 16
      · have hDD : ∀ k, k ≠ 4 → (aFrom DA x3_.toInt x6_.toInt) 0 k = DA 0 k := fun k hk => aFrom_0 k hk
        have lcb2 : LCb x h lk m (aFrom DA x3_.toInt x6_.toInt) K I14 R := by
          refine LCb.step hs kh klk hu scd hf7 hf14 rfl rfl rfl (fun _ => rfl) (fun _ => rfl) (fun _ => rfl) (fun _ => rfl) rfl rfl rfl rfl rfl rfl rfl rfl kx (fun _ => rfl) (D' := (aFrom DA x3_.toInt x6_.toInt)) hDD (k7_1.1 hc8) (by have h9 := k7_0; have h8 := sd4; rw [aFrom_4]; omega) (fun hm9 z9 => ?_)
          rw [r3] at z9; cases z9
        exact ⟨hu, (aFrom DA x3_.toInt x6_.toInt), lcb2, EA, KC.re kc (hDD 5 (by decide)) (hDD 6 (by decide)) (hDD 7 (by decide)) lcb2.1 lcb2.2.1 (fun z7 => ⟨dj_aFrom (kc.2.2.1 z7).1 ⟨hc8.2.1, hc8.2.2.1⟩ ⟨hc8.2.2.2.1, hc8.2.2.2.2.1⟩, fun l2 zl => by rw [hlw] at zl; cases zl; exact (k7_2.1 hc8).eq (fun j => hf14.get klw rfl)⟩) (KN_0 (fun kn2 zl j hj => by rw [hkn] at zl; cases zl; rw [hf14.get kkn rfl]; exact k7_3.1 hc8 j hj)) (by rw [hf14.get krd rfl, hf7.get krd rfl]) (fun b2 k z => (Fr.rrow hf14 hs krd rfl b2 k z).trans (Fr.rrow hf7 hs krd rfl b2 k z)), (rdm.mv hs km hf7 rfl).mv hs km hf14 rfl⟩
      · have hDD : ∀ k, k ≠ 4 → DA 0 k = DA 0 k := fun k hk => rfl
        have lcb2 : LCb x h lk m DA K I14 R := by
          refine LCb.step hs kh klk hu scd hf7 hf14 rfl rfl rfl (fun _ => rfl) (fun _ => rfl) (fun _ => rfl) (fun _ => rfl) rfl rfl rfl rfl rfl rfl rfl rfl kx (fun _ => rfl) (D' := DA) hDD (k7_1.2 hc8) (by have h9 := k7_0; have h8 := sd4; omega) (fun hm9 z9 => ?_)
          rw [r3] at z9; cases z9
        exact ⟨hu, DA, lcb2, EA, KC.re kc (hDD 5 (by decide)) (hDD 6 (by decide)) (hDD 7 (by decide)) lcb2.1 lcb2.2.1 (fun z7 => ⟨(kc.2.2.1 z7).1, fun l2 zl => by rw [hlw] at zl; cases zl; exact ((kc.2.2.1 z7).2.2 lw hlw).eq (fun j => (hf14.get klw rfl).trans (k7_2.2 hc8 j))⟩) (KN.eq kc.2.2.2.1 ka (fun b2 k z => (Fr.crs hf14 rfl b2 k z).trans (Fr.crs hf7 rfl b2 k z)) (fun kn2 zl j => by rw [hkn] at zl; cases zl; exact (hf14.get kkn rfl).trans (k7_3.2 hc8 j))) (by rw [hf14.get krd rfl, hf7.get krd rfl]) (fun b2 k z => (Fr.rrow hf14 hs krd rfl b2 k z).trans (Fr.rrow hf7 hs krd rfl b2 k z)), (rdm.mv hs km hf7 rfl).mv hs km hf14 rfl⟩
    have eqv : x7_.toInt = x14_.toInt := ip.1.trans pq.symm
    refine r_pop hC dL_law_374 rfl ?_
    refine r_goto hC (tgt := 1253) dL_law_375 (by decide) ?_
    refine r_sub [0, 1, 2, 3, 4] rfl ?_
    refine r_widen hC (k2 := cn + 18) (n2 := sn + 231) (Nat.le_add_right _ _) (Nat.le_add_right _ _) ?_
    exact kk K len I14 J R ⟨hs14, la, ⟨h, s, lk, ls, lh, lrn, lcn⟩, lbv⟩
  · have pq := k14_0
    rcases pq with ⟨z9, -⟩ | ⟨hm9, z9, pq⟩
    · rw [r3] at z9; cases z9
    rw [r3] at z9; cases z9
    have t_h1 : (I14 h 1).toInt = (I h 1).toInt := congrArg Int32.toInt ((hf14.get kh rfl).trans (hf7.get kh rfl))
    have t_h4 : (I14 h 4).toInt = (I h 4).toInt := congrArg Int32.toInt ((hf14.get kh rfl).trans (hf7.get kh rfl))
    have t_h6 : (I14 h 6).toInt = (I h 6).toInt := congrArg Int32.toInt ((hf14.get kh rfl).trans (hf7.get kh rfl))
    have t_h8 : (I14 h 8).toInt = (I h 8).toInt := congrArg Int32.toInt ((hf14.get kh rfl).trans (hf7.get kh rfl))
    have t_h12 : (I14 h 12).toInt = (I h 12).toInt := congrArg Int32.toInt ((hf14.get kh rfl).trans (hf7.get kh rfl))
    have t_lk1 : (I14 lk 1).toInt = (I lk 1).toInt := congrArg Int32.toInt ((hf14.get klk rfl).trans (hf7.get klk rfl))
    have t_lk3 : (I14 lk 3).toInt = (I lk 3).toInt := congrArg Int32.toInt ((hf14.get klk rfl).trans (hf7.get klk rfl))
    have t_lk4 : (I14 lk 4).toInt = (I7 lk 4).toInt := congrArg Int32.toInt (hf14.get klk rfl)
    have t_lk5 : (I14 lk 5).toInt = (I7 lk 5).toInt := congrArg Int32.toInt (hf14.get klk rfl)
    have t_rd0 : (I14 rd 0).toInt = (I rd 0).toInt := congrArg Int32.toInt ((hf14.get krd rfl).trans (hf7.get krd rfl))
    have t_m20 : (I14 m 20).toInt = (I m 20).toInt := congrArg Int32.toInt ((hf14.get km rfl).trans (hf7.get km rfl))
    have t_hm0 : (I14 hm 0).toInt = (I hm 0).toInt := congrArg Int32.toInt ((hf14.get khm rfl).trans (hf7.get khm rfl))
    have t_hm2 : (I14 hm 2).toInt = (I hm 2).toInt := congrArg Int32.toInt ((hf14.get khm rfl).trans (hf7.get khm rfl))
    have t_hm3 : (I14 hm 3).toInt = (I hm 3).toInt := congrArg Int32.toInt ((hf14.get khm rfl).trans (hf7.get khm rfl))
    have t_hm4 : (I7 hm 4).toInt = (I hm 4).toInt := congrArg Int32.toInt (hf7.get khm rfl)
    have t_hm5 : (I14 hm 5).toInt = (I hm 5).toInt := congrArg Int32.toInt ((hf14.get khm rfl).trans (hf7.get khm rfl))
    have t_hm6 : (I14 hm 6).toInt = (I hm 6).toInt := congrArg Int32.toInt ((hf14.get khm rfl).trans (hf7.get khm rfl))
    have t_hm7 : (I14 hm 7).toInt = (I hm 7).toInt := congrArg Int32.toInt ((hf14.get khm rfl).trans (hf7.get khm rfl))
    have t_hm8 : (I14 hm 8).toInt = (I hm 8).toInt := congrArg Int32.toInt ((hf14.get khm rfl).trans (hf7.get khm rfl))
    have t_hm9 : (I14 hm 9).toInt = (I hm 9).toInt := congrArg Int32.toInt ((hf14.get khm rfl).trans (hf7.get khm rfl))
    have ip := int_plan m0 (m8.trans t_hm4.symm) (show (I lk 5).toInt = (I7 hm 4).toInt - (I hm 5).toInt by rw [t_hm4]; exact m9) k7_0 pq
    have lrn : LR h lk rd m K I14 R := ⟨t_rd0.trans (lr.1.trans t_m20.symm), Or.inr ⟨hm, r3, khm, by rw [t_h6]; exact m0, t_h1.trans (m1.trans t_hm3.symm), t_h4.trans (m2.trans t_hm6.symm), t_h6.trans (m3.trans t_hm7.symm), t_h8.trans (m4.trans t_hm8.symm), t_h12.trans (m5.trans t_hm9.symm), t_lk1.trans (m6.trans t_hm0.symm), t_lk3.trans (m7.trans t_hm2.symm), t_lk4.trans ip.2.1, t_lk5.trans (ip.2.2.trans (by rw [t_hm5]))⟩⟩
    have lcn : LC x h lk rd m K I14 R := by
      by_cases hc8 : (I h 6).toInt ≠ 0 ∧ 0 ≤ x3_.toInt ∧ x3_.toInt ≤ 59 ∧ 0 ≤ x6_.toInt ∧ x6_.toInt ≤ 999 ∧ (I lk 4).toInt < 16
      · have hDD : ∀ k, k ≠ 4 → (aFrom DA x3_.toInt x6_.toInt) 0 k = DA 0 k := fun k hk => aFrom_0 k hk
        have lcb2 : LCb x h lk m (aFrom DA x3_.toInt x6_.toInt) K I14 R := by
          refine LCb.step hs kh klk hu scd hf7 hf14 rfl rfl rfl (fun _ => rfl) (fun _ => rfl) (fun _ => rfl) (fun _ => rfl) rfl rfl rfl rfl rfl rfl rfl rfl kx (fun _ => rfl) (D' := (aFrom DA x3_.toInt x6_.toInt)) hDD (k7_1.1 hc8) (by have h9 := k7_0; have h8 := sd4; rw [aFrom_4]; omega) (fun hm9 z9 => ?_)
          rw [r3] at z9; cases z9
          obtain ⟨z1, z2, z3, z4, z5⟩ := lcm hm r3
          have h44 := z4.2.2.2.1
          have k9 := k14_1 hm r3
          have hf4 : (I7 hm 4).toInt = (I hm 4).toInt := congrArg Int32.toInt (hf7.get z1 rfl)
          have c10 : 0 ≤ x3_.toInt ∧ x3_.toInt ≤ 59 ∧ 0 ≤ x6_.toInt ∧ x6_.toInt ≤ 999 ∧ (I7 hm 4).toInt < 16 := ⟨hc8.2.1, hc8.2.2.1, hc8.2.2.2.1, hc8.2.2.2.2.1, by have h9 := hc8.2.2.2.2.2; omega⟩
          have q4 : (I14 hm 4).toInt = (I7 hm 4).toInt + 1 := by rcases pq with ⟨y1, y2, y3⟩ | ⟨y1, y2, y3⟩; exact y3; exact absurd c10 y1
          exact ⟨z1, (dj_aFrom z2 ⟨hc8.2.1, hc8.2.2.1⟩ ⟨hc8.2.2.2.1, hc8.2.2.2.2.1⟩), k9.1 c10, z4, by rw [aFrom_4]; omega, fun l2 zl => by rw [hlw] at zl; cases zl; exact k7_2.1 hc8⟩
        exact ⟨hu, (aFrom DA x3_.toInt x6_.toInt), lcb2, EA, KC.re kc (hDD 5 (by decide)) (hDD 6 (by decide)) (hDD 7 (by decide)) lcb2.1 lcb2.2.1 (fun z7 => ⟨dj_aFrom (kc.2.2.1 z7).1 ⟨hc8.2.1, hc8.2.2.1⟩ ⟨hc8.2.2.2.1, hc8.2.2.2.2.1⟩, fun l2 zl => by rw [hlw] at zl; cases zl; exact (k7_2.1 hc8).eq (fun j => hf14.get klw rfl)⟩) (KN_0 (fun kn2 zl j hj => by rw [hkn] at zl; cases zl; rw [hf14.get kkn rfl]; exact k7_3.1 hc8 j hj)) (by rw [hf14.get krd rfl, hf7.get krd rfl]) (fun b2 k z => (Fr.rrow hf14 hs krd rfl b2 k z).trans (Fr.rrow hf7 hs krd rfl b2 k z)), (rdm.mv hs km hf7 rfl).mv hs km hf14 rfl⟩
      · have hDD : ∀ k, k ≠ 4 → DA 0 k = DA 0 k := fun k hk => rfl
        have lcb2 : LCb x h lk m DA K I14 R := by
          refine LCb.step hs kh klk hu scd hf7 hf14 rfl rfl rfl (fun _ => rfl) (fun _ => rfl) (fun _ => rfl) (fun _ => rfl) rfl rfl rfl rfl rfl rfl rfl rfl kx (fun _ => rfl) (D' := DA) hDD (k7_1.2 hc8) (by have h9 := k7_0; have h8 := sd4; omega) (fun hm9 z9 => ?_)
          rw [r3] at z9; cases z9
          obtain ⟨z1, z2, z3, z4, z5⟩ := lcm hm r3
          have h44 := z4.2.2.2.1
          have k9 := k14_1 hm r3
          have hf4 : (I7 hm 4).toInt = (I hm 4).toInt := congrArg Int32.toInt (hf7.get z1 rfl)
          have c10 : ¬ (0 ≤ x3_.toInt ∧ x3_.toInt ≤ 59 ∧ 0 ≤ x6_.toInt ∧ x6_.toInt ≤ 999 ∧ (I7 hm 4).toInt < 16) := fun h9 => hc8 ⟨by have h8 := m0; omega, h9.1, h9.2.1, h9.2.2.1, h9.2.2.2.1, by have h8 := h9.2.2.2.2; omega⟩
          have q4 : (I14 hm 4).toInt = (I7 hm 4).toInt := by rcases pq with ⟨y1, y2, y3⟩ | ⟨y1, y2, y3⟩; exact absurd y1 c10; exact y3
          exact ⟨z1, z2, k9.2 c10, z4, by omega, fun l2 zl => by rw [hlw] at zl; cases zl; exact (z5 lw hlw).eq (k7_2.2 hc8)⟩
        exact ⟨hu, DA, lcb2, EA, KC.re kc (hDD 5 (by decide)) (hDD 6 (by decide)) (hDD 7 (by decide)) lcb2.1 lcb2.2.1 (fun z7 => ⟨(kc.2.2.1 z7).1, fun l2 zl => by rw [hlw] at zl; cases zl; exact ((kc.2.2.1 z7).2.2 lw hlw).eq (fun j => (hf14.get klw rfl).trans (k7_2.2 hc8 j))⟩) (KN.eq kc.2.2.2.1 ka (fun b2 k z => (Fr.crs hf14 rfl b2 k z).trans (Fr.crs hf7 rfl b2 k z)) (fun kn2 zl j => by rw [hkn] at zl; cases zl; exact (hf14.get kkn rfl).trans (k7_3.2 hc8 j))) (by rw [hf14.get krd rfl, hf7.get krd rfl]) (fun b2 k z => (Fr.rrow hf14 hs krd rfl b2 k z).trans (Fr.rrow hf7 hs krd rfl b2 k z)), (rdm.mv hs km hf7 rfl).mv hs km hf14 rfl⟩
    have eqv : x7_.toInt = x14_.toInt := ip.1
    refine r_pop hC dL_law_374 rfl ?_
    refine r_goto hC (tgt := 1253) dL_law_375 (by decide) ?_
    refine r_sub [0, 1, 2, 3, 4] rfl ?_
    refine r_widen hC (k2 := cn + 18) (n2 := sn + 231) (Nat.le_add_right _ _) (Nat.le_add_right _ _) ?_
    exact kk K len I14 J R ⟨hs14, la, ⟨h, s, lk, ls, lh, lrn, lcn⟩, lbv⟩

