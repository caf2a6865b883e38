set_option maxHeartbeats 4000000 in
set_option maxRecDepth 100000 in
theorem law_8 {g : GG} {X : XT} {b L : Nat} {xs : Nat → Int32} (hX : LX g X b L xs) {x m o tp bt te tk nr pr rd mt cn sn : Nat} {i : Int32} {K len : Nat → Nat} {I : Nat → Nat → Int32} {J : Nat → Nat → Int64} {R : Nat → Nat → Option Nat} (hI : LI x m o tp bt te tk nr pr rd mt K len I R) (hi : 0 ≤ i.toInt) (hiL : i.toInt + 6 ≤ L) (hcn : cn + 18 ≤ 601024) (hsn : sn + 231 ≤ 7293034) (kk : ∀ K' len' I' J' R', LI x m o tp bt te tk nr pr rd mt K' len' I' R' → P g X 7 1253 [(0, .ref b), (1, .ref x), (2, .ref m), (3, .ref o), (4, .int i)] [] (cn + 18) (sn + 231) (K', len', I', J', R')) : P g X 7 452 [(0, .ref b), (1, .ref x), (2, .ref m), (3, .ref o), (4, .int i)] [] cn sn (K, len, I, J, R) := by
  obtain ⟨hC, hcs, hl, hXs, hb, hbA, hL⟩ := hX
  obtain ⟨hs, la, ⟨h, s, lk, ls, lh, lr, lc⟩, lb, lv⟩ := id hI
  obtain ⟨hu, DA, rwd, scd, lcm⟩ := id lc
  obtain ⟨sd1, sd2, sd3, sd4, sd5, sd7, sd8, sd9⟩ := id scd
  obtain ⟨kx, km, ⟨ko, no⟩, ⟨htp, ktp⟩, ⟨hbb, kbt, nbt⟩, ⟨hte, kte⟩, ⟨htk, ktk⟩, hbt, ⟨hnr, knr, lnr⟩, ⟨hpr, kpr, lpr⟩, ⟨hrd, krd⟩, ⟨hmt, kmt, nmt⟩⟩ := id la
  obtain ⟨⟨hh, kh⟩, ⟨hs2, ks⟩, ⟨hlk2, klk⟩, ⟨hls, kls⟩, nhs, nls⟩ := id lh
  obtain ⟨lv1, lv2, lv3, lv4⟩ := id lv
  obtain ⟨lw, hlw, klw, llw⟩ := hs.row kx 4 41 60 (by decide) (by decide)
  obtain ⟨kn, hkn, kkn, lkn⟩ := hs.row kx 6 43 6 (by decide) (by decide)
  obtain ⟨tl, htl, ktl, ltl⟩ := hs.row kx 7 41 60 (by decide) (by decide)
  obtain ⟨lrw, hlrw, klrw, llrw⟩ := hs.row km 15 85 60 (by decide) (by decide)
  have nlt : lw ≠ tl := hu.ne hlw htl (by rw [klw]; decide) (Or.inr (by decide))
  refine r_aload_n hC dL_law_452 1 rfl ?_
  refine r_aload_n hC dL_law_453 0 rfl ?_
  refine r_iload hC dL_law_454 4 rfl ?_
  refine r_iconst hC (v := (1)) dL_law_456 (by decide) (by decide) (fun x1_ e1 t1 => ?_)
  refine r_iadd hC dL_law_457 (fun x2_ e2 => ?_)
  try have t2 : x2_.toInt = i.toInt + x1_.toInt := by rw [e2]; exact ti_add (by omega) (by omega)
  refine r_sld hC hXs hb hbA (by omega) (by omega) dL_law_458 (fun x3_ e3 => ?_)
  refine r_callV hC (As := [.int x3_]) (rest := []) (ci := 8) (c_X8_gone g (xL X) K len I J R hs x kx x3_) mT_3_201 mT_1_1 mT_3_198 mT_3_199 mT_3_200 okX8_gone ⟨by decide, by decide⟩ rfl (by show kO (K x) = _; rw [kx]; rfl) rfl rfl (Nat.le_of_ble_eq_true rfl) ⟨by show cn + 0 ≤ 601024; omega, by show sn + 0 ≤ 7293034; omega⟩ dL_law_459 (aI1 (F := fun st M => P g X 7 462 [(0, .ref b), (1, .ref x), (2, .ref m), (3, .ref o), (4, .int i)] st _ _ M) (M := (K, len, I, J, R)) fun x4_ I4 h4 => ?_)
  obtain ⟨hs4, hf4, k4_0⟩ := h4
  show P g X 7 462 [(0, .ref b), (1, .ref x), (2, .ref m), (3, .ref o), (4, .int i)] [.int x4_] cn sn (K, len, I4, J, R)
  refine r_pop hC dL_law_462 rfl ?_
  refine r_aload_n hC dL_law_463 2 rfl ?_
  refine r_aload_n hC dL_law_464 0 rfl ?_
  refine r_iload hC dL_law_465 4 rfl ?_
  refine r_iconst hC (v := (1)) dL_law_467 (by decide) (by decide) (fun x5_ e5 t5 => ?_)
  refine r_iadd hC dL_law_468 (fun x6_ e6 => ?_)
  try have t6 : x6_.toInt = i.toInt + x5_.toInt := by rw [e6]; exact ti_add (by omega) (by omega)
  refine r_sld hC hXs hb hbA (by omega) (by omega) dL_law_469 (fun x7_ e7 => ?_)
  obtain rfl : x3_ = x7_ := sld_eq e3 e7 (by omega)
  refine r_callV hC (As := [.int x3_]) (rest := []) (ci := 10) (c_X10_gone g (xL X) K len I4 J R hs4 m km x3_) mT_6_155 mT_1_10 mT_6_152 mT_6_153 mT_6_154 okX10_gone ⟨by decide, by decide⟩ rfl (by show kO (K m) = _; rw [km]; rfl) rfl rfl (Nat.le_of_ble_eq_true rfl) ⟨by show cn + 0 ≤ 601024; omega, by show sn + 0 ≤ 7293034; omega⟩ dL_law_470 (aI1 (F := fun st M => P g X 7 473 [(0, .ref b), (1, .ref x), (2, .ref m), (3, .ref o), (4, .int i)] st _ _ M) (M := (K, len, I4, J, R)) fun x8_ I8 h8 => ?_)
  obtain ⟨hs8, hf8, k8_0⟩ := h8
  show P g X 7 473 [(0, .ref b), (1, .ref x), (2, .ref m), (3, .ref o), (4, .int i)] [.int x8_] cn sn (K, len, I8, J, R)
  refine r_pop hC dL_law_473 rfl ?_
  refine r_goto hC (tgt := 1253) dL_law_474 (by decide) ?_
  refine r_sub [0, 1, 2, 3, 4] rfl ?_
  refine r_widen hC (k2 := cn + 18) (n2 := sn + 231) (by omega) (by omega) ?_
  exact kk K len I8 J R (hI.ref hs8 hf4 hf8 rfl rfl rfl rfl rfl rfl rfl k4_0 k8_0)
set_option maxHeartbeats 4000000 in
set_option maxRecDepth 100000 in
theorem law_9 {g : GG} {X : XT} {b L : Nat} {xs : Nat → Int32} (hX : LX g X b L xs) {x m o tp bt te tk nr pr rd mt cn sn : Nat} {i : Int32} {K len : Nat → Nat} {I : Nat → Nat → Int32} {J : Nat → Nat → Int64} {R : Nat → Nat → Option Nat} (hI : LI x m o tp bt te tk nr pr rd mt K len I R) (hi : 0 ≤ i.toInt) (hiL : i.toInt + 6 ≤ L) (hcn : cn + 18 ≤ 601024) (hsn : sn + 231 ≤ 7293034) (kk : ∀ K' len' I' J' R', LI x m o tp bt te tk nr pr rd mt K' len' I' R' → P g X 7 1253 [(0, .ref b), (1, .ref x), (2, .ref m), (3, .ref o), (4, .int i)] [] (cn + 18) (sn + 231) (K', len', I', J', R')) : P g X 7 477 [(0, .ref b), (1, .ref x), (2, .ref m), (3, .ref o), (4, .int i)] [] cn sn (K, len, I, J, R) := by
  obtain ⟨hC, hcs, hl, hXs, hb, hbA, hL⟩ := hX
  obtain ⟨hs, la, ⟨h, s, lk, ls, lh, lr, lc⟩, lb, lv⟩ := id hI
  obtain ⟨hu, DA, rwd, scd, lcm⟩ := id lc
  obtain ⟨sd1, sd2, sd3, sd4, sd5, sd7, sd8, sd9⟩ := id scd
  obtain ⟨kx, km, ⟨ko, no⟩, ⟨htp, ktp⟩, ⟨hbb, kbt, nbt⟩, ⟨hte, kte⟩, ⟨htk, ktk⟩, hbt, ⟨hnr, knr, lnr⟩, ⟨hpr, kpr, lpr⟩, ⟨hrd, krd⟩, ⟨hmt, kmt, nmt⟩⟩ := id la
  obtain ⟨⟨hh, kh⟩, ⟨hs2, ks⟩, ⟨hlk2, klk⟩, ⟨hls, kls⟩, nhs, nls⟩ := id lh
  obtain ⟨lv1, lv2, lv3, lv4⟩ := id lv
  obtain ⟨lw, hlw, klw, llw⟩ := hs.row kx 4 41 60 (by decide) (by decide)
  obtain ⟨kn, hkn, kkn, lkn⟩ := hs.row kx 6 43 6 (by decide) (by decide)
  obtain ⟨tl, htl, ktl, ltl⟩ := hs.row kx 7 41 60 (by decide) (by decide)
  obtain ⟨lrw, hlrw, klrw, llrw⟩ := hs.row km 15 85 60 (by decide) (by decide)
  have nlt : lw ≠ tl := hu.ne hlw htl (by rw [klw]; decide) (Or.inr (by decide))
  refine r_aload_n hC dL_law_477 1 rfl ?_
  refine r_aload_n hC dL_law_478 0 rfl ?_
  refine r_iload hC dL_law_479 4 rfl ?_
  refine r_iconst hC (v := (1)) dL_law_481 (by decide) (by decide) (fun x1_ e1 t1 => ?_)
  refine r_iadd hC dL_law_482 (fun x2_ e2 => ?_)
  try have t2 : x2_.toInt = i.toInt + x1_.toInt := by rw [e2]; exact ti_add (by omega) (by omega)
  refine r_sld hC hXs hb hbA (by omega) (by omega) dL_law_483 (fun x3_ e3 => ?_)
  refine r_callV hC (As := [.int x3_]) (rest := []) (ci := 8) (c_X8_wave g (xL X) K len I J R hs x kx x3_) mT_3_205 mT_1_1 mT_3_202 mT_3_203 mT_3_204 okX8_wave ⟨by decide, by decide⟩ rfl (by show kO (K x) = _; rw [kx]; rfl) rfl rfl (Nat.le_of_ble_eq_true rfl) ⟨by show cn + 0 ≤ 601024; omega, by show sn + 0 ≤ 7293034; omega⟩ dL_law_484 (aI1 (F := fun st M => P g X 7 487 [(0, .ref b), (1, .ref x), (2, .ref m), (3, .ref o), (4, .int i)] st _ _ M) (M := (K, len, I, J, R)) fun x4_ I4 h4 => ?_)
  obtain ⟨hs4, hf4, k4_0⟩ := h4
  show P g X 7 487 [(0, .ref b), (1, .ref x), (2, .ref m), (3, .ref o), (4, .int i)] [.int x4_] cn sn (K, len, I4, J, R)
  refine r_pop hC dL_law_487 rfl ?_
  refine r_aload_n hC dL_law_488 2 rfl ?_
  refine r_aload_n hC dL_law_489 0 rfl ?_
  refine r_iload hC dL_law_490 4 rfl ?_
  refine r_iconst hC (v := (1)) dL_law_492 (by decide) (by decide) (fun x5_ e5 t5 => ?_)
  refine r_iadd hC dL_law_493 (fun x6_ e6 => ?_)
  try have t6 : x6_.toInt = i.toInt + x5_.toInt := by rw [e6]; exact ti_add (by omega) (by omega)
  refine r_sld hC hXs hb hbA (by omega) (by omega) dL_law_494 (fun x7_ e7 => ?_)
  obtain rfl : x3_ = x7_ := sld_eq e3 e7 (by omega)
  refine r_callV hC (As := [.int x3_]) (rest := []) (ci := 10) (c_X10_wave g (xL X) K len I4 J R hs4 m km x3_) mT_6_159 mT_1_10 mT_6_156 mT_6_157 mT_6_158 okX10_wave ⟨by decide, by decide⟩ rfl (by show kO (K m) = _; rw [km]; rfl) rfl rfl (Nat.le_of_ble_eq_true rfl) ⟨by show cn + 0 ≤ 601024; omega, by show sn + 0 ≤ 7293034; omega⟩ dL_law_495 (aI1 (F := fun st M => P g X 7 498 [(0, .ref b), (1, .ref x), (2, .ref m), (3, .ref o), (4, .int i)] st _ _ M) (M := (K, len, I4, J, R)) fun x8_ I8 h8 => ?_)
  obtain ⟨hs8, hf8, k8_0⟩ := h8
  show P g X 7 498 [(0, .ref b), (1, .ref x), (2, .ref m), (3, .ref o), (4, .int i)] [.int x8_] cn sn (K, len, I8, J, R)
  refine r_pop hC dL_law_498 rfl ?_
  refine r_goto hC (tgt := 1253) dL_law_499 (by decide) ?_
  refine r_sub [0, 1, 2, 3, 4] rfl ?_
  refine r_widen hC (k2 := cn + 18) (n2 := sn + 231) (by omega) (by omega) ?_
  exact kk K len I8 J R (hI.ref hs8 hf4 hf8 rfl rfl rfl rfl rfl rfl rfl k4_0 k8_0)
set_option maxHeartbeats 4000000 in
set_option maxRecDepth 100000 in
theorem law_10 {g : GG} {X : XT} {b L : Nat} {xs : Nat → Int32} (hX : LX g X b L xs) {x m o tp bt te tk nr pr rd mt cn sn : Nat} {i : Int32} {K len : Nat → Nat} {I : Nat → Nat → Int32} {J : Nat → Nat → Int64} {R : Nat → Nat → Option Nat} (hI : LI x m o tp bt te tk nr pr rd mt K len I R) (hi : 0 ≤ i.toInt) (hiL : i.toInt + 6 ≤ L) (hcn : cn + 18 ≤ 601024) (hsn : sn + 231 ≤ 7293034) (kk : ∀ K' len' I' J' R', LI x m o tp bt te tk nr pr rd mt K' len' I' R' → P g X 7 1253 [(0, .ref b), (1, .ref x), (2, .ref m), (3, .ref o), (4, .int i)] [] (cn + 18) (sn + 231) (K', len', I', J', R')) : P g X 7 502 [(0, .ref b), (1, .ref x), (2, .ref m), (3, .ref o), (4, .int i)] [] cn sn (K, len, I, J, R) := by
  obtain ⟨hC, hcs, hl, hXs, hb, hbA, hL⟩ := hX
  obtain ⟨hs, la, ⟨h, s, lk, ls, lh, lr, lc⟩, lb, lv⟩ := id hI
  obtain ⟨hu, DA, rwd, scd, lcm⟩ := id lc
  obtain ⟨sd1, sd2, sd3, sd4, sd5, sd7, sd8, sd9⟩ := id scd
  obtain ⟨kx, km, ⟨ko, no⟩, ⟨htp, ktp⟩, ⟨hbb, kbt, nbt⟩, ⟨hte, kte⟩, ⟨htk, ktk⟩, hbt, ⟨hnr, knr, lnr⟩, ⟨hpr, kpr, lpr⟩, ⟨hrd, krd⟩, ⟨hmt, kmt, nmt⟩⟩ := id la
  obtain ⟨⟨hh, kh⟩, ⟨hs2, ks⟩, ⟨hlk2, klk⟩, ⟨hls, kls⟩, nhs, nls⟩ := id lh
  obtain ⟨lv1, lv2, lv3, lv4⟩ := id lv
  obtain ⟨lw, hlw, klw, llw⟩ := hs.row kx 4 41 60 (by decide) (by decide)
  obtain ⟨kn, hkn, kkn, lkn⟩ := hs.row kx 6 43 6 (by decide) (by decide)
  obtain ⟨tl, htl, ktl, ltl⟩ := hs.row kx 7 41 60 (by decide) (by decide)
  obtain ⟨lrw, hlrw, klrw, llrw⟩ := hs.row km 15 85 60 (by decide) (by decide)
  have nlt : lw ≠ tl := hu.ne hlw htl (by rw [klw]; decide) (Or.inr (by decide))
  refine r_aload_n hC dL_law_502 1 rfl ?_
  refine r_aload_n hC dL_law_503 0 rfl ?_
  refine r_iload hC dL_law_504 4 rfl ?_
  refine r_iconst hC (v := (1)) dL_law_506 (by decide) (by decide) (fun x1_ e1 t1 => ?_)
  refine r_iadd hC dL_law_507 (fun x2_ e2 => ?_)
  try have t2 : x2_.toInt = i.toInt + x1_.toInt := by rw [e2]; exact ti_add (by omega) (by omega)
  refine r_sld hC hXs hb hbA (by omega) (by omega) dL_law_508 (fun x3_ e3 => ?_)
  refine r_aload_n hC dL_law_509 0 rfl ?_
  refine r_iload hC dL_law_510 4 rfl ?_
  refine r_iconst hC (v := (2)) dL_law_512 (by decide) (by decide) (fun x4_ e4 t4 => ?_)
  refine r_iadd hC dL_law_513 (fun x5_ e5 => ?_)
  try have t5 : x5_.toInt = i.toInt + x4_.toInt := by rw [e5]; exact ti_add (by omega) (by omega)
  refine r_sld hC hXs hb hbA (by omega) (by omega) dL_law_514 (fun x6_ e6 => ?_)
  refine r_aload_n hC dL_law_515 0 rfl ?_
  refine r_iload hC dL_law_516 4 rfl ?_
  refine r_iconst hC (v := (3)) dL_law_518 (by decide) (by decide) (fun x7_ e7 t7 => ?_)
  refine r_iadd hC dL_law_519 (fun x8_ e8 => ?_)
  try have t8 : x8_.toInt = i.toInt + x7_.toInt := by rw [e8]; exact ti_add (by omega) (by omega)
  refine r_sld hC hXs hb hbA (by omega) (by omega) dL_law_520 (fun x9_ e9 => ?_)
  refine r_aload_n hC dL_law_521 0 rfl ?_
  refine r_iload hC dL_law_522 4 rfl ?_
  refine r_iconst hC (v := (4)) dL_law_524 (by decide) (by decide) (fun x10_ e10 t10 => ?_)
  refine r_iadd hC dL_law_525 (fun x11_ e11 => ?_)
  try have t11 : x11_.toInt = i.toInt + x10_.toInt := by rw [e11]; exact ti_add (by omega) (by omega)
  refine r_sld hC hXs hb hbA (by omega) (by omega) dL_law_526 (fun x12_ e12 => ?_)
  refine r_callV hC (As := [.int x3_, .int x6_, .int x9_, .int x12_]) (rest := []) (ci := 8) (f_X8_read g (xL X) K len I J R hs x kx x3_ x6_ x9_ x12_ h hh kh rd hrd krd) mT_3_209 mT_1_1 mT_3_206 mT_3_207 mT_3_208 okX8_read ⟨by decide, by decide⟩ rfl (by show kO (K x) = _; rw [kx]; rfl) rfl rfl (Nat.le_of_ble_eq_true rfl) ⟨by show cn + 0 ≤ 601024; omega, by show sn + 0 ≤ 7293034; omega⟩ dL_law_527 (aI1 (F := fun st M => P g X 7 530 [(0, .ref b), (1, .ref x), (2, .ref m), (3, .ref o), (4, .int i)] st _ _ M) (M := (K, len, I, J, R)) fun x13_ I13 h13 => ?_)
  obtain ⟨hs13, hf13, k13_0, k13_1⟩ := h13
  show P g X 7 530 [(0, .ref b), (1, .ref x), (2, .ref m), (3, .ref o), (4, .int i)] [.int x13_] cn sn (K, len, I13, J, R)
  refine r_pop hC dL_law_530 rfl ?_
  refine r_aload_n hC dL_law_531 2 rfl ?_
  refine r_aload_n hC dL_law_532 0 rfl ?_
  refine r_iload hC dL_law_533 4 rfl ?_
  refine r_iconst hC (v := (1)) dL_law_535 (by decide) (by decide) (fun x14_ e14 t14 => ?_)
  refine r_iadd hC dL_law_536 (fun x15_ e15 => ?_)
  try have t15 : x15_.toInt = i.toInt + x14_.toInt := by rw [e15]; exact ti_add (by omega) (by omega)
  refine r_sld hC hXs hb hbA (by omega) (by omega) dL_law_537 (fun x16_ e16 => ?_)
  obtain rfl : x3_ = x16_ := sld_eq e3 e16 (by omega)
  refine r_aload_n hC dL_law_538 0 rfl ?_
  refine r_iload hC dL_law_539 4 rfl ?_
  refine r_iconst hC (v := (2)) dL_law_541 (by decide) (by decide) (fun x17_ e17 t17 => ?_)
  refine r_iadd hC dL_law_542 (fun x18_ e18 => ?_)
  try have t18 : x18_.toInt = i.toInt + x17_.toInt := by rw [e18]; exact ti_add (by omega) (by omega)
  refine r_sld hC hXs hb hbA (by omega) (by omega) dL_law_543 (fun x19_ e19 => ?_)
  obtain rfl : x6_ = x19_ := sld_eq e6 e19 (by omega)
  refine r_aload_n hC dL_law_544 0 rfl ?_
  refine r_iload hC dL_law_545 4 rfl ?_
  refine r_iconst hC (v := (3)) dL_law_547 (by decide) (by decide) (fun x20_ e20 t20 => ?_)
  refine r_iadd hC dL_law_548 (fun x21_ e21 => ?_)
  try have t21 : x21_.toInt = i.toInt + x20_.toInt := by rw [e21]; exact ti_add (by omega) (by omega)
  refine r_sld hC hXs hb hbA (by omega) (by omega) dL_law_549 (fun x22_ e22 => ?_)
  obtain rfl : x9_ = x22_ := sld_eq e9 e22 (by omega)
  refine r_aload_n hC dL_law_550 0 rfl ?_
  refine r_iload hC dL_law_551 4 rfl ?_
  refine r_iconst hC (v := (4)) dL_law_553 (by decide) (by decide) (fun x23_ e23 t23 => ?_)
  refine r_iadd hC dL_law_554 (fun x24_ e24 => ?_)
  try have t24 : x24_.toInt = i.toInt + x23_.toInt := by rw [e24]; exact ti_add (by omega) (by omega)
  refine r_sld hC hXs hb hbA (by omega) (by omega) dL_law_555 (fun x25_ e25 => ?_)
  obtain rfl : x12_ = x25_ := sld_eq e12 e25 (by omega)
  refine r_callV hC (As := [.int x3_, .int x6_, .int x9_, .int x12_]) (rest := []) (ci := 10) (f_X10_read g (xL X) K len I13 J R hs13 m km x3_ x6_ x9_ x12_) mT_6_171 mT_1_10 mT_6_168 mT_6_169 mT_6_170 okX10_read ⟨by decide, by decide⟩ rfl (by show kO (K m) = _; rw [km]; rfl) rfl rfl (Nat.le_of_ble_eq_true rfl) ⟨by show cn + 0 ≤ 601024; omega, by show sn + 0 ≤ 7293034; omega⟩ dL_law_556 (aI1 (F := fun st M => P g X 7 559 [(0, .ref b), (1, .ref x), (2, .ref m), (3, .ref o), (4, .int i)] st _ _ M) (M := (K, len, I13, J, R)) fun x26_ I26 h26 => ?_)
  obtain ⟨hs26, hf26, k26_0, k26_1⟩ := h26
  show P g X 7 559 [(0, .ref b), (1, .ref x), (2, .ref m), (3, .ref o), (4, .int i)] [.int x26_] cn sn (K, len, I26, J, R)
  have lbv := LBV.ref la lb lv hf13 hf26 rfl rfl rfl k13_1 k26_1
  have t_h1 : (I26 h 1).toInt = (I h 1).toInt := congrArg Int32.toInt ((hf26.get kh rfl).trans (hf13.get kh rfl))
  have t_h4 : (I26 h 4).toInt = (I h 4).toInt := congrArg Int32.toInt ((hf26.get kh rfl).trans (hf13.get kh rfl))
  have t_h6 : (I26 h 6).toInt = (I h 6).toInt := congrArg Int32.toInt ((hf26.get kh rfl).trans (hf13.get kh rfl))
  have t_h8 : (I26 h 8).toInt = (I h 8).toInt := congrArg Int32.toInt ((hf26.get kh rfl).trans (hf13.get kh rfl))
  have t_h12 : (I26 h 12).toInt = (I h 12).toInt := congrArg Int32.toInt ((hf26.get kh rfl).trans (hf13.get kh rfl))
  have t_lk1 : (I26 lk 1).toInt = (I lk 1).toInt := congrArg Int32.toInt ((hf26.get klk rfl).trans (hf13.get klk rfl))
  have t_lk3 : (I26 lk 3).toInt = (I lk 3).toInt := congrArg Int32.toInt ((hf26.get klk rfl).trans (hf13.get klk rfl))
  have t_lk4 : (I26 lk 4).toInt = (I lk 4).toInt := congrArg Int32.toInt ((hf26.get klk rfl).trans (hf13.get klk rfl))
  have t_lk5 : (I26 lk 5).toInt = (I lk 5).toInt := congrArg Int32.toInt ((hf26.get klk rfl).trans (hf13.get klk rfl))
  have t_rd0 : (I26 rd 0).toInt = (I13 rd 0).toInt := congrArg Int32.toInt (hf26.get krd rfl)
  have t_m20 : (I13 m 20).toInt = (I m 20).toInt := congrArg Int32.toInt (hf13.get km rfl)
  have lcn := (lc.mv hs kx hf13 kh klk rfl).mv hs kx hf26 kh klk rfl
  rcases lr.2 with ⟨r3, n1, n2, n3, n4, n5, n6, n7, n8, n9, nr0⟩ | ⟨hm, r3, khm, m0, m1, m2, m3, m4, m5, m6, m7, m8, m9⟩
  · have pq := k26_0
    rcases pq with ⟨-, pq⟩ | ⟨hm9, z9, -⟩
    rotate_left
    · rw [r3] at z9; cases z9
    have ip := int_readN n1 k13_0
    have lrn : LR h lk rd m K I26 R := ⟨t_rd0.trans (ip.2.trans (lr.1.trans (t_m20.symm.trans pq.2.symm))), Or.inl ⟨r3, t_h1.trans n1, t_h4.trans n2, t_h6.trans n3, t_h8.trans n4, t_h12.trans n5, t_lk1.trans n6, t_lk3.trans n7, t_lk4.trans n8, t_lk5.trans n9, t_rd0.trans (ip.2.trans nr0)⟩⟩
    have eqv : x13_.toInt = x26_.toInt := ip.1.trans pq.1.symm
    refine r_pop hC dL_law_559 rfl ?_
    refine r_goto hC (tgt := 1253) dL_law_560 (by decide) ?_
    refine r_sub [0, 1, 2, 3, 4] rfl ?_
    refine r_widen hC (k2 := cn + 18) (n2 := sn + 231) (Nat.le_add_right _ _) (Nat.le_add_right _ _) ?_
    exact kk K len I26 J R ⟨hs26, la, ⟨h, s, lk, ls, lh, lrn, lcn⟩, lbv⟩
  · have pq := k26_0
    rcases pq with ⟨z9, -⟩ | ⟨hm9, z9, pq⟩
    · rw [r3] at z9; cases z9
    rw [r3] at z9; cases z9
    have t_h1 : (I26 h 1).toInt = (I h 1).toInt := congrArg Int32.toInt ((hf26.get kh rfl).trans (hf13.get kh rfl))
    have t_h4 : (I26 h 4).toInt = (I h 4).toInt := congrArg Int32.toInt ((hf26.get kh rfl).trans (hf13.get kh rfl))
    have t_h6 : (I26 h 6).toInt = (I h 6).toInt := congrArg Int32.toInt ((hf26.get kh rfl).trans (hf13.get kh rfl))
    have t_h8 : (I26 h 8).toInt = (I h 8).toInt := congrArg Int32.toInt ((hf26.get kh rfl).trans (hf13.get kh rfl))
    have t_h12 : (I26 h 12).toInt = (I h 12).toInt := congrArg Int32.toInt ((hf26.get kh rfl).trans (hf13.get kh rfl))
    have t_lk1 : (I26 lk 1).toInt = (I lk 1).toInt := congrArg Int32.toInt ((hf26.get klk rfl).trans (hf13.get klk rfl))
    have t_lk3 : (I26 lk 3).toInt = (I lk 3).toInt := congrArg Int32.toInt ((hf26.get klk rfl).trans (hf13.get klk rfl))
    have t_lk4 : (I26 lk 4).toInt = (I lk 4).toInt := congrArg Int32.toInt ((hf26.get klk rfl).trans (hf13.get klk rfl))
    have t_lk5 : (I26 lk 5).toInt = (I lk 5).toInt := congrArg Int32.toInt ((hf26.get klk rfl).trans (hf13.get klk rfl))
    have t_rd0 : (I26 rd 0).toInt = (I13 rd 0).toInt := congrArg Int32.toInt (hf26.get krd rfl)
    have t_m20 : (I13 m 20).toInt = (I m 20).toInt := congrArg Int32.toInt (hf13.get km rfl)
    have t_hm0 : (I26 hm 0).toInt = (I hm 0).toInt := congrArg Int32.toInt ((hf26.get khm rfl).trans (hf13.get khm rfl))
    have t_hm2 : (I26 hm 2).toInt = (I hm 2).toInt := congrArg Int32.toInt ((hf26.get khm rfl).trans (hf13.get khm rfl))
    have t_hm3 : (I26 hm 3).toInt = (I hm 3).toInt := congrArg Int32.toInt ((hf26.get khm rfl).trans (hf13.get khm rfl))
    have t_hm4 : (I26 hm 4).toInt = (I hm 4).toInt := congrArg Int32.toInt ((hf26.get khm rfl).trans (hf13.get khm rfl))
    have t_hm5 : (I26 hm 5).toInt = (I hm 5).toInt := congrArg Int32.toInt ((hf26.get khm rfl).trans (hf13.get khm rfl))
    have t_hm6 : (I26 hm 6).toInt = (I hm 6).toInt := congrArg Int32.toInt ((hf26.get khm rfl).trans (hf13.get khm rfl))
    have t_hm7 : (I26 hm 7).toInt = (I hm 7).toInt := congrArg Int32.toInt ((hf26.get khm rfl).trans (hf13.get khm rfl))
    have t_hm8 : (I26 hm 8).toInt = (I hm 8).toInt := congrArg Int32.toInt ((hf26.get khm rfl).trans (hf13.get khm rfl))
    have t_hm9 : (I26 hm 9).toInt = (I hm 9).toInt := congrArg Int32.toInt ((hf26.get khm rfl).trans (hf13.get khm rfl))
    have t_hm3b : (I13 hm 3).toInt = (I hm 3).toInt := congrArg Int32.toInt (hf13.get khm rfl)
    have ip := int_read (m1.trans t_hm3b.symm) (lr.1.trans t_m20.symm) k13_0 pq
    have lrn : LR h lk rd m K I26 R := ⟨t_rd0.trans ip.2, Or.inr ⟨hm, r3, khm, by rw [t_h6]; exact m0, t_h1.trans (m1.trans t_hm3.symm), t_h4.trans (m2.trans t_hm6.symm), t_h6.trans (m3.trans t_hm7.symm), t_h8.trans (m4.trans t_hm8.symm), t_h12.trans (m5.trans t_hm9.symm), t_lk1.trans (m6.trans t_hm0.symm), t_lk3.trans (m7.trans t_hm2.symm), t_lk4.trans (m8.trans t_hm4.symm), by rw [t_lk5, t_hm4, t_hm5]; exact m9⟩⟩
    have eqv : x13_.toInt = x26_.toInt := ip.1
    refine r_pop hC dL_law_559 rfl ?_
    refine r_goto hC (tgt := 1253) dL_law_560 (by decide) ?_
    refine r_sub [0, 1, 2, 3, 4] rfl ?_
    refine r_widen hC (k2 := cn + 18) (n2 := sn + 231) (Nat.le_add_right _ _) (Nat.le_add_right _ _) ?_
    exact kk K len I26 J R ⟨hs26, la, ⟨h, s, lk, ls, lh, lrn, lcn⟩, lbv⟩
set_option maxHeartbeats 4000000 in
set_option maxRecDepth 100000 in
theorem law_11 {g : GG} {X : XT} {b L : Nat} {xs : Nat → Int32} (hX : LX g X b L xs) {x m o tp bt te tk nr pr rd mt cn sn : Nat} {i : Int32} {K len : Nat → Nat} {I : Nat → Nat → Int32} {J : Nat → Nat → Int64} {R : Nat → Nat → Option Nat} (hI : LI x m o tp bt te tk nr pr rd mt K len I R) (hi : 0 ≤ i.toInt) (hiL : i.toInt + 6 ≤ L) (hcn : cn + 18 ≤ 601024) (hsn : sn + 231 ≤ 7293034) (kk : ∀ K' len' I' J' R', LI x m o tp bt te tk nr pr rd mt K' len' I' R' → P g X 7 1253 [(0, .ref b), (1, .ref x), (2, .ref m), (3, .ref o), (4, .int i)] [] (cn + 18) (sn + 231) (K', len', I', J', R')) : P g X 7 563 [(0, .ref b), (1, .ref x), (2, .ref m), (3, .ref o), (4, .int i)] [] cn sn (K, len, I, J, R) := by
  obtain ⟨hC, hcs, hl, hXs, hb, hbA, hL⟩ := hX
  obtain ⟨hs, la, ⟨h, s, lk, ls, lh, lr, lc⟩, lb, lv⟩ := id hI
  obtain ⟨hu, DA, rwd, scd, lcm⟩ := id lc
  obtain ⟨sd1, sd2, sd3, sd4, sd5, sd7, sd8, sd9⟩ := id scd
  obtain ⟨kx, km, ⟨ko, no⟩, ⟨htp, ktp⟩, ⟨hbb, kbt, nbt⟩, ⟨hte, kte⟩, ⟨htk, ktk⟩, hbt, ⟨hnr, knr, lnr⟩, ⟨hpr, kpr, lpr⟩, ⟨hrd, krd⟩, ⟨hmt, kmt, nmt⟩⟩ := id la
  obtain ⟨⟨hh, kh⟩, ⟨hs2, ks⟩, ⟨hlk2, klk⟩, ⟨hls, kls⟩, nhs, nls⟩ := id lh
  obtain ⟨lv1, lv2, lv3, lv4⟩ := id lv
  obtain ⟨lw, hlw, klw, llw⟩ := hs.row kx 4 41 60 (by decide) (by decide)
  obtain ⟨kn, hkn, kkn, lkn⟩ := hs.row kx 6 43 6 (by decide) (by decide)
  obtain ⟨tl, htl, ktl, ltl⟩ := hs.row kx 7 41 60 (by decide) (by decide)
  obtain ⟨lrw, hlrw, klrw, llrw⟩ := hs.row km 15 85 60 (by decide) (by decide)
  have nlt : lw ≠ tl := hu.ne hlw htl (by rw [klw]; decide) (Or.inr (by decide))
  refine r_aload_n hC dL_law_563 1 rfl ?_
  refine r_callV hC (As := []) (rest := []) (ci := 8) (f_X8_forget g (xL X) K len I J R hs x kx  rd hrd krd) mT_3_218 mT_1_1 mT_3_215 mT_3_216 mT_3_217 okX8_forget ⟨by decide, by decide⟩ rfl (by show kO (K x) = _; rw [kx]; rfl) rfl rfl (Nat.le_of_ble_eq_true rfl) ⟨by show cn + 0 ≤ 601024; omega, by show sn + 0 ≤ 7293034; omega⟩ dL_law_564 (aI1 (F := fun st M => P g X 7 567 [(0, .ref b), (1, .ref x), (2, .ref m), (3, .ref o), (4, .int i)] st _ _ M) (M := (K, len, I, J, R)) fun x1_ I1 h1 => ?_)
  obtain ⟨hs1, hf1, k1_0, k1_1⟩ := h1
  show P g X 7 567 [(0, .ref b), (1, .ref x), (2, .ref m), (3, .ref o), (4, .int i)] [.int x1_] cn sn (K, len, I1, J, R)
  refine r_pop hC dL_law_567 rfl ?_
  refine r_aload_n hC dL_law_568 2 rfl ?_
  refine r_callV hC (As := []) (rest := []) (ci := 10) (f_X10_forget g (xL X) K len I1 J R hs1 m km ) mT_6_176 mT_1_10 mT_6_173 mT_6_174 mT_6_175 okX10_forget ⟨by decide, by decide⟩ rfl (by show kO (K m) = _; rw [km]; rfl) rfl rfl (Nat.le_of_ble_eq_true rfl) ⟨by show cn + 0 ≤ 601024; omega, by show sn + 0 ≤ 7293034; omega⟩ dL_law_569 (aI1 (F := fun st M => P g X 7 572 [(0, .ref b), (1, .ref x), (2, .ref m), (3, .ref o), (4, .int i)] st _ _ M) (M := (K, len, I1, J, R)) fun x2_ I2 h2 => ?_)
  obtain ⟨hs2, hf2, k2_0, k2_1⟩ := h2
  show P g X 7 572 [(0, .ref b), (1, .ref x), (2, .ref m), (3, .ref o), (4, .int i)] [.int x2_] cn sn (K, len, I2, J, R)
  have lbv := LBV.sil la lb lv hf1 hf2 rfl rfl rfl rfl rfl rfl
  have t_h1 : (I2 h 1).toInt = (I h 1).toInt := congrArg Int32.toInt ((hf2.get kh rfl).trans (hf1.get kh rfl))
  have t_h4 : (I2 h 4).toInt = (I h 4).toInt := congrArg Int32.toInt ((hf2.get kh rfl).trans (hf1.get kh rfl))
  have t_h6 : (I2 h 6).toInt = (I h 6).toInt := congrArg Int32.toInt ((hf2.get kh rfl).trans (hf1.get kh rfl))
  have t_h8 : (I2 h 8).toInt = (I h 8).toInt := congrArg Int32.toInt ((hf2.get kh rfl).trans (hf1.get kh rfl))
  have t_h12 : (I2 h 12).toInt = (I h 12).toInt := congrArg Int32.toInt ((hf2.get kh rfl).trans (hf1.get kh rfl))
  have t_lk1 : (I2 lk 1).toInt = (I lk 1).toInt := congrArg Int32.toInt ((hf2.get klk rfl).trans (hf1.get klk rfl))
  have t_lk3 : (I2 lk 3).toInt = (I lk 3).toInt := congrArg Int32.toInt ((hf2.get klk rfl).trans (hf1.get klk rfl))
  have t_lk4 : (I2 lk 4).toInt = (I lk 4).toInt := congrArg Int32.toInt ((hf2.get klk rfl).trans (hf1.get klk rfl))
  have t_lk5 : (I2 lk 5).toInt = (I lk 5).toInt := congrArg Int32.toInt ((hf2.get klk rfl).trans (hf1.get klk rfl))
  have t_rd0 : (I2 rd 0).toInt = (I1 rd 0).toInt := congrArg Int32.toInt (hf2.get krd rfl)
  have t_m20 : (I1 m 20).toInt = (I m 20).toInt := congrArg Int32.toInt (hf1.get km rfl)
  have lcn := (lc.mv hs kx hf1 kh klk rfl).mv hs kx hf2 kh klk rfl
  have lrn : LR h lk rd m K I2 R := by
    rcases lr.2 with ⟨r3, n1, n2, n3, n4, n5, n6, n7, n8, n9, nr0⟩ | ⟨hm, r3, khm, m0, m1, m2, m3, m4, m5, m6, m7, m8, m9⟩
    · exact ⟨(t_rd0.trans k1_1).trans k2_1.symm, Or.inl ⟨r3, t_h1.trans n1, t_h4.trans n2, t_h6.trans n3, t_h8.trans n4, t_h12.trans n5, t_lk1.trans n6, t_lk3.trans n7, t_lk4.trans n8, t_lk5.trans n9, t_rd0.trans k1_1⟩⟩
    · have t_h1 : (I2 h 1).toInt = (I h 1).toInt := congrArg Int32.toInt ((hf2.get kh rfl).trans (hf1.get kh rfl))
      have t_h4 : (I2 h 4).toInt = (I h 4).toInt := congrArg Int32.toInt ((hf2.get kh rfl).trans (hf1.get kh rfl))
      have t_h6 : (I2 h 6).toInt = (I h 6).toInt := congrArg Int32.toInt ((hf2.get kh rfl).trans (hf1.get kh rfl))
      have t_h8 : (I2 h 8).toInt = (I h 8).toInt := congrArg Int32.toInt ((hf2.get kh rfl).trans (hf1.get kh rfl))
      have t_h12 : (I2 h 12).toInt = (I h 12).toInt := congrArg Int32.toInt ((hf2.get kh rfl).trans (hf1.get kh rfl))
      have t_lk1 : (I2 lk 1).toInt = (I lk 1).toInt := congrArg Int32.toInt ((hf2.get klk rfl).trans (hf1.get klk rfl))
      have t_lk3 : (I2 lk 3).toInt = (I lk 3).toInt := congrArg Int32.toInt ((hf2.get klk rfl).trans (hf1.get klk rfl))
      have t_lk4 : (I2 lk 4).toInt = (I lk 4).toInt := congrArg Int32.toInt ((hf2.get klk rfl).trans (hf1.get klk rfl))
      have t_lk5 : (I2 lk 5).toInt = (I lk 5).toInt := congrArg Int32.toInt ((hf2.get klk rfl).trans (hf1.get klk rfl))
      have t_rd0 : (I2 rd 0).toInt = (I1 rd 0).toInt := congrArg Int32.toInt (hf2.get krd rfl)
      have t_m20 : (I1 m 20).toInt = (I m 20).toInt := congrArg Int32.toInt (hf1.get km rfl)
      have t_hm0 : (I2 hm 0).toInt = (I hm 0).toInt := congrArg Int32.toInt ((hf2.get khm rfl).trans (hf1.get khm rfl))
      have t_hm2 : (I2 hm 2).toInt = (I hm 2).toInt := congrArg Int32.toInt ((hf2.get khm rfl).trans (hf1.get khm rfl))
      have t_hm3 : (I2 hm 3).toInt = (I hm 3).toInt := congrArg Int32.toInt ((hf2.get khm rfl).trans (hf1.get khm rfl))
      have t_hm4 : (I2 hm 4).toInt = (I hm 4).toInt := congrArg Int32.toInt ((hf2.get khm rfl).trans (hf1.get khm rfl))
      have t_hm5 : (I2 hm 5).toInt = (I hm 5).toInt := congrArg Int32.toInt ((hf2.get khm rfl).trans (hf1.get khm rfl))
      have t_hm6 : (I2 hm 6).toInt = (I hm 6).toInt := congrArg Int32.toInt ((hf2.get khm rfl).trans (hf1.get khm rfl))
      have t_hm7 : (I2 hm 7).toInt = (I hm 7).toInt := congrArg Int32.toInt ((hf2.get khm rfl).trans (hf1.get khm rfl))
      have t_hm8 : (I2 hm 8).toInt = (I hm 8).toInt := congrArg Int32.toInt ((hf2.get khm rfl).trans (hf1.get khm rfl))
      have t_hm9 : (I2 hm 9).toInt = (I hm 9).toInt := congrArg Int32.toInt ((hf2.get khm rfl).trans (hf1.get khm rfl))
      exact ⟨(t_rd0.trans k1_1).trans k2_1.symm, Or.inr ⟨hm, r3, khm, by rw [t_h6]; exact m0, t_h1.trans (m1.trans t_hm3.symm), t_h4.trans (m2.trans t_hm6.symm), t_h6.trans (m3.trans t_hm7.symm), t_h8.trans (m4.trans t_hm8.symm), t_h12.trans (m5.trans t_hm9.symm), t_lk1.trans (m6.trans t_hm0.symm), t_lk3.trans (m7.trans t_hm2.symm), t_lk4.trans (m8.trans t_hm4.symm), by rw [t_lk5, t_hm4, t_hm5]; exact m9⟩⟩
  have eqv : x1_.toInt = x2_.toInt := k1_0.trans (lr.1.trans (t_m20.symm.trans k2_0.symm))
  refine r_pop hC dL_law_572 rfl ?_
  refine r_goto hC (tgt := 1253) dL_law_573 (by decide) ?_
  refine r_sub [0, 1, 2, 3, 4] rfl ?_
  refine r_widen hC (k2 := cn + 18) (n2 := sn + 231) (Nat.le_add_right _ _) (Nat.le_add_right _ _) ?_
  exact kk K len I2 J R ⟨hs2, la, ⟨h, s, lk, ls, lh, lrn, lcn⟩, lbv⟩
set_option maxHeartbeats 4000000 in
set_option maxRecDepth 100000 in
theorem law_12 {g : GG} {X : XT} {b L : Nat} {xs : Nat → Int32} (hX : LX g X b L xs) {x m o tp bt te tk nr pr rd mt cn sn : Nat} {i : Int32} {K len : Nat → Nat} {I : Nat → Nat → Int32} {J : Nat → Nat → Int64} {R : Nat → Nat → Option Nat} (hI : LI x m o tp bt te tk nr pr rd mt K len I R) (hi : 0 ≤ i.toInt) (hiL : i.toInt + 6 ≤ L) (hcn : cn + 18 ≤ 601024) (hsn : sn + 231 ≤ 7293034) (kk : ∀ K' len' I' J' R', LI x m o tp bt te tk nr pr rd mt K' len' I' R' → P g X 7 1253 [(0, .ref b), (1, .ref x), (2, .ref m), (3, .ref o), (4, .int i)] [] (cn + 18) (sn + 231) (K', len', I', J', R')) : P g X 7 576 [(0, .ref b), (1, .ref x), (2, .ref m), (3, .ref o), (4, .int i)] [] cn sn (K, len, I, J, R) := by
  obtain ⟨hC, hcs, hl, hXs, hb, hbA, hL⟩ := hX
  obtain ⟨hs, la, ⟨h, s, lk, ls, lh, lr, lc⟩, lb, lv⟩ := id hI
  obtain ⟨hu, DA, rwd, scd, lcm⟩ := id lc
  obtain ⟨sd1, sd2, sd3, sd4, sd5, sd7, sd8, sd9⟩ := id scd
  obtain ⟨kx, km, ⟨ko, no⟩, ⟨htp, ktp⟩, ⟨hbb, kbt, nbt⟩, ⟨hte, kte⟩, ⟨htk, ktk⟩, hbt, ⟨hnr, knr, lnr⟩, ⟨hpr, kpr, lpr⟩, ⟨hrd, krd⟩, ⟨hmt, kmt, nmt⟩⟩ := id la
  obtain ⟨⟨hh, kh⟩, ⟨hs2, ks⟩, ⟨hlk2, klk⟩, ⟨hls, kls⟩, nhs, nls⟩ := id lh
  obtain ⟨lv1, lv2, lv3, lv4⟩ := id lv
  obtain ⟨lw, hlw, klw, llw⟩ := hs.row kx 4 41 60 (by decide) (by decide)
  obtain ⟨kn, hkn, kkn, lkn⟩ := hs.row kx 6 43 6 (by decide) (by decide)
  obtain ⟨tl, htl, ktl, ltl⟩ := hs.row kx 7 41 60 (by decide) (by decide)
  obtain ⟨lrw, hlrw, klrw, llrw⟩ := hs.row km 15 85 60 (by decide) (by decide)
  have nlt : lw ≠ tl := hu.ne hlw htl (by rw [klw]; decide) (Or.inr (by decide))
  refine r_aload_n hC dL_law_576 1 rfl ?_
  refine r_callV hC (As := []) (rest := []) (ci := 8) (c_X8_fits g (xL X) K len I J R hs x kx ) mT_3_222 mT_1_1 mT_3_219 mT_3_220 mT_3_221 okX8_fits ⟨by decide, by decide⟩ rfl (by show kO (K x) = _; rw [kx]; rfl) rfl rfl (Nat.le_of_ble_eq_true rfl) ⟨by show cn + 0 ≤ 601024; omega, by show sn + 0 ≤ 7293034; omega⟩ dL_law_577 (aI1 (F := fun st M => P g X 7 580 [(0, .ref b), (1, .ref x), (2, .ref m), (3, .ref o), (4, .int i)] st _ _ M) (M := (K, len, I, J, R)) fun x1_ I1 h1 => ?_)
  obtain ⟨hs1, hf1, k1_0⟩ := h1
  show P g X 7 580 [(0, .ref b), (1, .ref x), (2, .ref m), (3, .ref o), (4, .int i)] [.int x1_] cn sn (K, len, I1, J, R)
  refine r_pop hC dL_law_580 rfl ?_
  refine r_aload_n hC dL_law_581 2 rfl ?_
  refine r_callV hC (As := []) (rest := []) (ci := 10) (c_X10_fits g (xL X) K len I1 J R hs1 m km ) mT_6_180 mT_1_10 mT_6_177 mT_6_178 mT_6_179 okX10_fits ⟨by decide, by decide⟩ rfl (by show kO (K m) = _; rw [km]; rfl) rfl rfl (Nat.le_of_ble_eq_true rfl) ⟨by show cn + 0 ≤ 601024; omega, by show sn + 0 ≤ 7293034; omega⟩ dL_law_582 (aI1 (F := fun st M => P g X 7 585 [(0, .ref b), (1, .ref x), (2, .ref m), (3, .ref o), (4, .int i)] st _ _ M) (M := (K, len, I1, J, R)) fun x2_ I2 h2 => ?_)
  obtain ⟨hs2, hf2, k2_0⟩ := h2
  show P g X 7 585 [(0, .ref b), (1, .ref x), (2, .ref m), (3, .ref o), (4, .int i)] [.int x2_] cn sn (K, len, I2, J, R)
  refine r_pop hC dL_law_585 rfl ?_
  refine r_goto hC (tgt := 1253) dL_law_586 (by decide) ?_
  refine r_sub [0, 1, 2, 3, 4] rfl ?_
  refine r_widen hC (k2 := cn + 18) (n2 := sn + 231) (by omega) (by omega) ?_
  exact kk K len I2 J R (hI.ref hs2 hf1 hf2 rfl rfl rfl rfl rfl rfl rfl k1_0 k2_0)
set_option maxHeartbeats 4000000 in
set_option maxRecDepth 100000 in
theorem law_13 {g : GG} {X : XT} {b L : Nat} {xs : Nat → Int32} (hX : LX g X b L xs) {x m o tp bt te tk nr pr rd mt cn sn : Nat} {i : Int32} {K len : Nat → Nat} {I : Nat → Nat → Int32} {J : Nat → Nat → Int64} {R : Nat → Nat → Option Nat} (hI : LI x m o tp bt te tk nr pr rd mt K len I R) (hi : 0 ≤ i.toInt) (hiL : i.toInt + 6 ≤ L) (hcn : cn + 18 ≤ 601024) (hsn : sn + 231 ≤ 7293034) (kk : ∀ K' len' I' J' R', LI x m o tp bt te tk nr pr rd mt K' len' I' R' → P g X 7 1253 [(0, .ref b), (1, .ref x), (2, .ref m), (3, .ref o), (4, .int i)] [] (cn + 18) (sn + 231) (K', len', I', J', R')) : P g X 7 589 [(0, .ref b), (1, .ref x), (2, .ref m), (3, .ref o), (4, .int i)] [] cn sn (K, len, I, J, R) := by
  obtain ⟨hC, hcs, hl, hXs, hb, hbA, hL⟩ := hX
  obtain ⟨hs, la, ⟨h, s, lk, ls, lh, lr, lc⟩, lb, lv⟩ := id hI
  obtain ⟨hu, DA, rwd, scd, lcm⟩ := id lc
  obtain ⟨sd1, sd2, sd3, sd4, sd5, sd7, sd8, sd9⟩ := id scd
  obtain ⟨kx, km, ⟨ko, no⟩, ⟨htp, ktp⟩, ⟨hbb, kbt, nbt⟩, ⟨hte, kte⟩, ⟨htk, ktk⟩, hbt, ⟨hnr, knr, lnr⟩, ⟨hpr, kpr, lpr⟩, ⟨hrd, krd⟩, ⟨hmt, kmt, nmt⟩⟩ := id la
  obtain ⟨⟨hh, kh⟩, ⟨hs2, ks⟩, ⟨hlk2, klk⟩, ⟨hls, kls⟩, nhs, nls⟩ := id lh
  obtain ⟨lv1, lv2, lv3, lv4⟩ := id lv
  obtain ⟨lw, hlw, klw, llw⟩ := hs.row kx 4 41 60 (by decide) (by decide)
  obtain ⟨kn, hkn, kkn, lkn⟩ := hs.row kx 6 43 6 (by decide) (by decide)
  obtain ⟨tl, htl, ktl, ltl⟩ := hs.row kx 7 41 60 (by decide) (by decide)
  obtain ⟨lrw, hlrw, klrw, llrw⟩ := hs.row km 15 85 60 (by decide) (by decide)
  have nlt : lw ≠ tl := hu.ne hlw htl (by rw [klw]; decide) (Or.inr (by decide))
  refine r_aload_n hC dL_law_589 1 rfl ?_
  refine r_aload_n hC dL_law_590 0 rfl ?_
  refine r_iload hC dL_law_591 4 rfl ?_
  refine r_iconst hC (v := (1)) dL_law_593 (by decide) (by decide) (fun x1_ e1 t1 => ?_)
  refine r_iadd hC dL_law_594 (fun x2_ e2 => ?_)
  try have t2 : x2_.toInt = i.toInt + x1_.toInt := by rw [e2]; exact ti_add (by omega) (by omega)
  refine r_sld hC hXs hb hbA (by omega) (by omega) dL_law_595 (fun x3_ e3 => ?_)
  refine r_callV hC (As := [.int x3_]) (rest := []) (ci := 8) (c_X8_fit g (xL X) K len I J R hs x kx x3_) mT_4_3 mT_1_1 mT_4_0 mT_4_1 mT_4_2 okX8_fit ⟨by decide, by decide⟩ rfl (by show kO (K x) = _; rw [kx]; rfl) rfl rfl (Nat.le_of_ble_eq_true rfl) ⟨by show cn + 0 ≤ 601024; omega, by show sn + 0 ≤ 7293034; omega⟩ dL_law_596 (aI1 (F := fun st M => P g X 7 599 [(0, .ref b), (1, .ref x), (2, .ref m), (3, .ref o), (4, .int i)] st _ _ M) (M := (K, len, I, J, R)) fun x4_ I4 h4 => ?_)
  obtain ⟨hs4, hf4, k4_0⟩ := h4
  show P g X 7 599 [(0, .ref b), (1, .ref x), (2, .ref m), (3, .ref o), (4, .int i)] [.int x4_] cn sn (K, len, I4, J, R)
  refine r_pop hC dL_law_599 rfl ?_
  refine r_aload_n hC dL_law_600 2 rfl ?_
  refine r_aload_n hC dL_law_601 0 rfl ?_
  refine r_iload hC dL_law_602 4 rfl ?_
  refine r_iconst hC (v := (1)) dL_law_604 (by decide) (by decide) (fun x5_ e5 t5 => ?_)
  refine r_iadd hC dL_law_605 (fun x6_ e6 => ?_)
  try have t6 : x6_.toInt = i.toInt + x5_.toInt := by rw [e6]; exact ti_add (by omega) (by omega)
  refine r_sld hC hXs hb hbA (by omega) (by omega) dL_law_606 (fun x7_ e7 => ?_)
  obtain rfl : x3_ = x7_ := sld_eq e3 e7 (by omega)
  refine r_callV hC (As := [.int x3_]) (rest := []) (ci := 10) (c_X10_fit g (xL X) K len I4 J R hs4 m km x3_) mT_6_192 mT_1_10 mT_6_189 mT_6_190 mT_6_191 okX10_fit ⟨by decide, by decide⟩ rfl (by show kO (K m) = _; rw [km]; rfl) rfl rfl (Nat.le_of_ble_eq_true rfl) ⟨by show cn + 0 ≤ 601024; omega, by show sn + 0 ≤ 7293034; omega⟩ dL_law_607 (aI1 (F := fun st M => P g X 7 610 [(0, .ref b), (1, .ref x), (2, .ref m), (3, .ref o), (4, .int i)] st _ _ M) (M := (K, len, I4, J, R)) fun x8_ I8 h8 => ?_)
  obtain ⟨hs8, hf8, k8_0⟩ := h8
  show P g X 7 610 [(0, .ref b), (1, .ref x), (2, .ref m), (3, .ref o), (4, .int i)] [.int x8_] cn sn (K, len, I8, J, R)
  refine r_pop hC dL_law_610 rfl ?_
  refine r_goto hC (tgt := 1253) dL_law_611 (by decide) ?_
  refine r_sub [0, 1, 2, 3, 4] rfl ?_
  refine r_widen hC (k2 := cn + 18) (n2 := sn + 231) (by omega) (by omega) ?_
  exact kk K len I8 J R (hI.ref hs8 hf4 hf8 rfl rfl rfl rfl rfl rfl rfl k4_0 k8_0)
set_option maxHeartbeats 4000000 in
set_option maxRecDepth 100000 in
theorem law_14 {g : GG} {X : XT} {b L : Nat} {xs : Nat → Int32} (hX : LX g X b L xs) {x m o tp bt te tk nr pr rd mt cn sn : Nat} {i : Int32} {K len : Nat → Nat} {I : Nat → Nat → Int32} {J : Nat → Nat → Int64} {R : Nat → Nat → Option Nat} (hI : LI x m o tp bt te tk nr pr rd mt K len I R) (hi : 0 ≤ i.toInt) (hiL : i.toInt + 6 ≤ L) (hcn : cn + 18 ≤ 601024) (hsn : sn + 231 ≤ 7293034) (kk : ∀ K' len' I' J' R', LI x m o tp bt te tk nr pr rd mt K' len' I' R' → P g X 7 1253 [(0, .ref b), (1, .ref x), (2, .ref m), (3, .ref o), (4, .int i)] [] (cn + 18) (sn + 231) (K', len', I', J', R')) : P g X 7 614 [(0, .ref b), (1, .ref x), (2, .ref m), (3, .ref o), (4, .int i)] [] cn sn (K, len, I, J, R) := by
  obtain ⟨hC, hcs, hl, hXs, hb, hbA, hL⟩ := hX
  obtain ⟨hs, la, ⟨h, s, lk, ls, lh, lr, lc⟩, lb, lv⟩ := id hI
  obtain ⟨hu, DA, rwd, scd, lcm⟩ := id lc
  obtain ⟨sd1, sd2, sd3, sd4, sd5, sd7, sd8, sd9⟩ := id scd
  obtain ⟨kx, km, ⟨ko, no⟩, ⟨htp, ktp⟩, ⟨hbb, kbt, nbt⟩, ⟨hte, kte⟩, ⟨htk, ktk⟩, hbt, ⟨hnr, knr, lnr⟩, ⟨hpr, kpr, lpr⟩, ⟨hrd, krd⟩, ⟨hmt, kmt, nmt⟩⟩ := id la
  obtain ⟨⟨hh, kh⟩, ⟨hs2, ks⟩, ⟨hlk2, klk⟩, ⟨hls, kls⟩, nhs, nls⟩ := id lh
  obtain ⟨lv1, lv2, lv3, lv4⟩ := id lv
  obtain ⟨lw, hlw, klw, llw⟩ := hs.row kx 4 41 60 (by decide) (by decide)
  obtain ⟨kn, hkn, kkn, lkn⟩ := hs.row kx 6 43 6 (by decide) (by decide)
  obtain ⟨tl, htl, ktl, ltl⟩ := hs.row kx 7 41 60 (by decide) (by decide)
  obtain ⟨lrw, hlrw, klrw, llrw⟩ := hs.row km 15 85 60 (by decide) (by decide)
  have nlt : lw ≠ tl := hu.ne hlw htl (by rw [klw]; decide) (Or.inr (by decide))
  refine r_aload_n hC dL_law_614 1 rfl ?_
  refine r_aload_n hC dL_law_615 0 rfl ?_
  refine r_iload hC dL_law_616 4 rfl ?_
  refine r_iconst hC (v := (1)) dL_law_618 (by decide) (by decide) (fun x1_ e1 t1 => ?_)
  refine r_iadd hC dL_law_619 (fun x2_ e2 => ?_)
  try have t2 : x2_.toInt = i.toInt + x1_.toInt := by rw [e2]; exact ti_add (by omega) (by omega)
  refine r_sld hC hXs hb hbA (by omega) (by omega) dL_law_620 (fun x3_ e3 => ?_)
  refine r_callV hC (As := [.int x3_]) (rest := []) (ci := 8) (c_X8_weight g (xL X) K len I J R hs x kx x3_) mT_4_11 mT_1_1 mT_4_8 mT_4_9 mT_4_10 okX8_weight ⟨by decide, by decide⟩ rfl (by show kO (K x) = _; rw [kx]; rfl) rfl rfl (Nat.le_of_ble_eq_true rfl) ⟨by show cn + 0 ≤ 601024; omega, by show sn + 0 ≤ 7293034; omega⟩ dL_law_621 (aI1 (F := fun st M => P g X 7 624 [(0, .ref b), (1, .ref x), (2, .ref m), (3, .ref o), (4, .int i)] st _ _ M) (M := (K, len, I, J, R)) fun x4_ I4 h4 => ?_)
  obtain ⟨hs4, hf4, k4_0⟩ := h4
  show P g X 7 624 [(0, .ref b), (1, .ref x), (2, .ref m), (3, .ref o), (4, .int i)] [.int x4_] cn sn (K, len, I4, J, R)
  refine r_pop hC dL_law_624 rfl ?_
  refine r_aload_n hC dL_law_625 2 rfl ?_
  refine r_aload_n hC dL_law_626 0 rfl ?_
  refine r_iload hC dL_law_627 4 rfl ?_
  refine r_iconst hC (v := (1)) dL_law_629 (by decide) (by decide) (fun x5_ e5 t5 => ?_)
  refine r_iadd hC dL_law_630 (fun x6_ e6 => ?_)
  try have t6 : x6_.toInt = i.toInt + x5_.toInt := by rw [e6]; exact ti_add (by omega) (by omega)
  refine r_sld hC hXs hb hbA (by omega) (by omega) dL_law_631 (fun x7_ e7 => ?_)
  obtain rfl : x3_ = x7_ := sld_eq e3 e7 (by omega)
  refine r_callV hC (As := [.int x3_]) (rest := []) (ci := 10) (c_X10_weight g (xL X) K len I4 J R hs4 m km x3_) mT_6_196 mT_1_10 mT_6_193 mT_6_194 mT_6_195 okX10_weight ⟨by decide, by decide⟩ rfl (by show kO (K m) = _; rw [km]; rfl) rfl rfl (Nat.le_of_ble_eq_true rfl) ⟨by show cn + 0 ≤ 601024; omega, by show sn + 0 ≤ 7293034; omega⟩ dL_law_632 (aI1 (F := fun st M => P g X 7 635 [(0, .ref b), (1, .ref x), (2, .ref m), (3, .ref o), (4, .int i)] st _ _ M) (M := (K, len, I4, J, R)) fun x8_ I8 h8 => ?_)
  obtain ⟨hs8, hf8, k8_0⟩ := h8
  show P g X 7 635 [(0, .ref b), (1, .ref x), (2, .ref m), (3, .ref o), (4, .int i)] [.int x8_] cn sn (K, len, I8, J, R)
  refine r_pop hC dL_law_635 rfl ?_
  refine r_goto hC (tgt := 1253) dL_law_636 (by decide) ?_
  refine r_sub [0, 1, 2, 3, 4] rfl ?_
  refine r_widen hC (k2 := cn + 18) (n2 := sn + 231) (by omega) (by omega) ?_
  exact kk K len I8 J R (hI.ref hs8 hf4 hf8 rfl rfl rfl rfl rfl rfl rfl k4_0 k8_0)
set_option maxHeartbeats 4000000 in
set_option maxRecDepth 100000 in
theorem law_15 {g : GG} {X : XT} {b L : Nat} {xs : Nat → Int32} (hX : LX g X b L xs) {x m o tp bt te tk nr pr rd mt cn sn : Nat} {i : Int32} {K len : Nat → Nat} {I : Nat → Nat → Int32} {J : Nat → Nat → Int64} {R : Nat → Nat → Option Nat} (hI : LI x m o tp bt te tk nr pr rd mt K len I R) (hi : 0 ≤ i.toInt) (hiL : i.toInt + 6 ≤ L) (hcn : cn + 18 ≤ 601024) (hsn : sn + 231 ≤ 7293034) (kk : ∀ K' len' I' J' R', LI x m o tp bt te tk nr pr rd mt K' len' I' R' → P g X 7 1253 [(0, .ref b), (1, .ref x), (2, .ref m), (3, .ref o), (4, .int i)] [] (cn + 18) (sn + 231) (K', len', I', J', R')) : P g X 7 639 [(0, .ref b), (1, .ref x), (2, .ref m), (3, .ref o), (4, .int i)] [] cn sn (K, len, I, J, R) := by
  obtain ⟨hC, hcs, hl, hXs, hb, hbA, hL⟩ := hX
  obtain ⟨hs, la, ⟨h, s, lk, ls, lh, lr, lc⟩, lb, lv⟩ := id hI
  obtain ⟨hu, DA, rwd, scd, lcm⟩ := id lc
  obtain ⟨sd1, sd2, sd3, sd4, sd5, sd7, sd8, sd9⟩ := id scd
  obtain ⟨kx, km, ⟨ko, no⟩, ⟨htp, ktp⟩, ⟨hbb, kbt, nbt⟩, ⟨hte, kte⟩, ⟨htk, ktk⟩, hbt, ⟨hnr, knr, lnr⟩, ⟨hpr, kpr, lpr⟩, ⟨hrd, krd⟩, ⟨hmt, kmt, nmt⟩⟩ := id la
  obtain ⟨⟨hh, kh⟩, ⟨hs2, ks⟩, ⟨hlk2, klk⟩, ⟨hls, kls⟩, nhs, nls⟩ := id lh
  obtain ⟨lv1, lv2, lv3, lv4⟩ := id lv
  obtain ⟨lw, hlw, klw, llw⟩ := hs.row kx 4 41 60 (by decide) (by decide)
  obtain ⟨kn, hkn, kkn, lkn⟩ := hs.row kx 6 43 6 (by decide) (by decide)
  obtain ⟨tl, htl, ktl, ltl⟩ := hs.row kx 7 41 60 (by decide) (by decide)
  obtain ⟨lrw, hlrw, klrw, llrw⟩ := hs.row km 15 85 60 (by decide) (by decide)
  have nlt : lw ≠ tl := hu.ne hlw htl (by rw [klw]; decide) (Or.inr (by decide))
  refine r_aload_n hC dL_law_639 1 rfl ?_
  refine r_callV hC (As := []) (rest := []) (ci := 8) (c_X8_clear g (xL X) K len I J R hs x kx ) mT_4_19 mT_1_1 mT_4_16 mT_4_17 mT_4_18 okX8_clear ⟨by decide, by decide⟩ rfl (by show kO (K x) = _; rw [kx]; rfl) rfl rfl (Nat.le_of_ble_eq_true rfl) ⟨by show cn + 0 ≤ 601024; omega, by show sn + 0 ≤ 7293034; omega⟩ dL_law_640 (aI1 (F := fun st M => P g X 7 643 [(0, .ref b), (1, .ref x), (2, .ref m), (3, .ref o), (4, .int i)] st _ _ M) (M := (K, len, I, J, R)) fun x1_ I1 h1 => ?_)
  obtain ⟨hs1, hf1, k1_0⟩ := h1
  show P g X 7 643 [(0, .ref b), (1, .ref x), (2, .ref m), (3, .ref o), (4, .int i)] [.int x1_] cn sn (K, len, I1, J, R)
  refine r_pop hC dL_law_643 rfl ?_
  refine r_aload_n hC dL_law_644 2 rfl ?_
  refine r_callV hC (As := []) (rest := []) (ci := 10) (c_X10_clear g (xL X) K len I1 J R hs1 m km ) mT_6_204 mT_1_10 mT_6_201 mT_6_202 mT_6_203 okX10_clear ⟨by decide, by decide⟩ rfl (by show kO (K m) = _; rw [km]; rfl) rfl rfl (Nat.le_of_ble_eq_true rfl) ⟨by show cn + 0 ≤ 601024; omega, by show sn + 0 ≤ 7293034; omega⟩ dL_law_645 (aI1 (F := fun st M => P g X 7 648 [(0, .ref b), (1, .ref x), (2, .ref m), (3, .ref o), (4, .int i)] st _ _ M) (M := (K, len, I1, J, R)) fun x2_ I2 h2 => ?_)
  obtain ⟨hs2, hf2, k2_0⟩ := h2
  show P g X 7 648 [(0, .ref b), (1, .ref x), (2, .ref m), (3, .ref o), (4, .int i)] [.int x2_] cn sn (K, len, I2, J, R)
  refine r_pop hC dL_law_648 rfl ?_
  refine r_goto hC (tgt := 1253) dL_law_649 (by decide) ?_
  refine r_sub [0, 1, 2, 3, 4] rfl ?_
  refine r_widen hC (k2 := cn + 18) (n2 := sn + 231) (by omega) (by omega) ?_
  exact kk K len I2 J R (hI.ref hs2 hf1 hf2 rfl rfl rfl rfl rfl rfl rfl k1_0 k2_0)
set_option maxHeartbeats 4000000 in
set_option maxRecDepth 100000 in
theorem law_16 {g : GG} {X : XT} {b L : Nat} {xs : Nat → Int32} (hX : LX g X b L xs) {x m o tp bt te tk nr pr rd mt cn sn : Nat} {i : Int32} {K len : Nat → Nat} {I : Nat → Nat → Int32} {J : Nat → Nat → Int64} {R : Nat → Nat → Option Nat} (hI : LI x m o tp bt te tk nr pr rd mt K len I R) (hi : 0 ≤ i.toInt) (hiL : i.toInt + 6 ≤ L) (hcn : cn + 18 ≤ 601024) (hsn : sn + 231 ≤ 7293034) (kk : ∀ K' len' I' J' R', LI x m o tp bt te tk nr pr rd mt K' len' I' R' → P g X 7 1253 [(0, .ref b), (1, .ref x), (2, .ref m), (3, .ref o), (4, .int i)] [] (cn + 18) (sn + 231) (K', len', I', J', R')) : P g X 7 652 [(0, .ref b), (1, .ref x), (2, .ref m), (3, .ref o), (4, .int i)] [] cn sn (K, len, I, J, R) := by
  obtain ⟨hC, hcs, hl, hXs, hb, hbA, hL⟩ := hX
  obtain ⟨hs, la, ⟨h, s, lk, ls, lh, lr, lc⟩, lb, lv⟩ := id hI
  obtain ⟨hu, DA, rwd, scd, lcm⟩ := id lc
  obtain ⟨sd1, sd2, sd3, sd4, sd5, sd7, sd8, sd9⟩ := id scd
  obtain ⟨kx, km, ⟨ko, no⟩, ⟨htp, ktp⟩, ⟨hbb, kbt, nbt⟩, ⟨hte, kte⟩, ⟨htk, ktk⟩, hbt, ⟨hnr, knr, lnr⟩, ⟨hpr, kpr, lpr⟩, ⟨hrd, krd⟩, ⟨hmt, kmt, nmt⟩⟩ := id la
  obtain ⟨⟨hh, kh⟩, ⟨hs2, ks⟩, ⟨hlk2, klk⟩, ⟨hls, kls⟩, nhs, nls⟩ := id lh
  obtain ⟨lv1, lv2, lv3, lv4⟩ := id lv
  obtain ⟨lw, hlw, klw, llw⟩ := hs.row kx 4 41 60 (by decide) (by decide)
  obtain ⟨kn, hkn, kkn, lkn⟩ := hs.row kx 6 43 6 (by decide) (by decide)
  obtain ⟨tl, htl, ktl, ltl⟩ := hs.row kx 7 41 60 (by decide) (by decide)
  obtain ⟨lrw, hlrw, klrw, llrw⟩ := hs.row km 15 85 60 (by decide) (by decide)
  have nlt : lw ≠ tl := hu.ne hlw htl (by rw [klw]; decide) (Or.inr (by decide))
  refine r_aload_n hC dL_law_652 1 rfl ?_
  refine r_callV hC (As := []) (rest := []) (ci := 8) (c_X8_lettings g (xL X) K len I J R hs x kx ) mT_4_23 mT_1_1 mT_4_20 mT_4_21 mT_4_22 okX8_lettings ⟨by decide, by decide⟩ rfl (by show kO (K x) = _; rw [kx]; rfl) rfl rfl (Nat.le_of_ble_eq_true rfl) ⟨by show cn + 0 ≤ 601024; omega, by show sn + 0 ≤ 7293034; omega⟩ dL_law_653 (aI1 (F := fun st M => P g X 7 656 [(0, .ref b), (1, .ref x), (2, .ref m), (3, .ref o), (4, .int i)] st _ _ M) (M := (K, len, I, J, R)) fun x1_ I1 h1 => ?_)
  obtain ⟨hs1, hf1, k1_0⟩ := h1
  show P g X 7 656 [(0, .ref b), (1, .ref x), (2, .ref m), (3, .ref o), (4, .int i)] [.int x1_] cn sn (K, len, I1, J, R)
  refine r_pop hC dL_law_656 rfl ?_
  refine r_aload_n hC dL_law_657 2 rfl ?_
  refine r_callV hC (As := []) (rest := []) (ci := 10) (c_X10_lettings g (xL X) K len I1 J R hs1 m km ) mT_6_208 mT_1_10 mT_6_205 mT_6_206 mT_6_207 okX10_lettings ⟨by decide, by decide⟩ rfl (by show kO (K m) = _; rw [km]; rfl) rfl rfl (Nat.le_of_ble_eq_true rfl) ⟨by show cn + 0 ≤ 601024; omega, by show sn + 0 ≤ 7293034; omega⟩ dL_law_658 (aI1 (F := fun st M => P g X 7 661 [(0, .ref b), (1, .ref x), (2, .ref m), (3, .ref o), (4, .int i)] st _ _ M) (M := (K, len, I1, J, R)) fun x2_ I2 h2 => ?_)
  obtain ⟨hs2, hf2, k2_0⟩ := h2
  show P g X 7 661 [(0, .ref b), (1, .ref x), (2, .ref m), (3, .ref o), (4, .int i)] [.int x2_] cn sn (K, len, I2, J, R)
  refine r_pop hC dL_law_661 rfl ?_
  refine r_goto hC (tgt := 1253) dL_law_662 (by decide) ?_
  refine r_sub [0, 1, 2, 3, 4] rfl ?_
  refine r_widen hC (k2 := cn + 18) (n2 := sn + 231) (by omega) (by omega) ?_
  exact kk K len I2 J R (hI.ref hs2 hf1 hf2 rfl rfl rfl rfl rfl rfl rfl k1_0 k2_0)

