set_option maxHeartbeats 4000000 in
set_option maxRecDepth 100000 in
theorem law_27 {g : GG} {X : XT} {b L : Nat} {xs : Nat → Int32} (hX : LX g X b L xs) {x m o tp bt te tk nr pr rd mt cn sn : Nat} {i : Int32} {K len : Nat → Nat} {I : Nat → Nat → Int32} {J : Nat → Nat → Int64} {R : Nat → Nat → Option Nat} (hI : LI x m o tp bt te tk nr pr rd mt K len I R) (hi : 0 ≤ i.toInt) (hiL : i.toInt + 6 ≤ L) (hcn : cn + 18 ≤ 601024) (hsn : sn + 231 ≤ 7293034) (kk : ∀ K' len' I' J' R', LI x m o tp bt te tk nr pr rd mt K' len' I' R' → P g X 7 1253 [(0, .ref b), (1, .ref x), (2, .ref m), (3, .ref o), (4, .int i)] [] (cn + 18) (sn + 231) (K', len', I', J', R')) : P g X 7 1027 [(0, .ref b), (1, .ref x), (2, .ref m), (3, .ref o), (4, .int i)] [] cn sn (K, len, I, J, R) := by
  obtain ⟨hC, hcs, hl, hXs, hb, hbA, hL⟩ := hX
  obtain ⟨hs, la, ⟨h, s, lk, ls, lh, lr, lc⟩, lb, lv⟩ := id hI
  obtain ⟨hu, DA, lcb, EA, kc, rdm⟩ := id lc
  obtain ⟨rwd, scd, lcm⟩ := id lcb
  obtain ⟨sd1, sd2, sd3, sd4, sd5, sd7, sd8, sd9⟩ := id scd
  obtain ⟨kx, km, ⟨ko, no⟩, ⟨htp, ktp⟩, ⟨hbb, kbt, nbt⟩, ⟨hte, kte⟩, ⟨htk, ktk⟩, hbt, ⟨hnr, knr, lnr⟩, ⟨hpr, kpr, lpr⟩, ⟨hrd, krd⟩, ⟨hmt, kmt, nmt⟩⟩ := id la
  obtain ⟨⟨hh, kh⟩, ⟨hs2, ks⟩, ⟨hlk2, klk⟩, ⟨hls, kls⟩, nhs, nls⟩ := id lh
  obtain ⟨lv1, lv2, lv3, lv4⟩ := id lv
  obtain ⟨lw, hlw, klw, llw⟩ := hs.row kx 4 41 60 (by decide) (by decide)
  obtain ⟨kn, hkn, kkn, lkn⟩ := hs.row kx 6 43 6 (by decide) (by decide)
  obtain ⟨cr, hcr, kcr1, lcr⟩ := hs.row kx 5 44 6 (by decide) (by decide)
  have ka : KA x h lk rd K len R := ⟨⟨_, hs⟩, hu, kx, kh, klk, krd⟩
  have rdb9 := hs.rng krd (k := 0) rfl (x := I rd 0) rfl
  obtain ⟨tl, htl, ktl, ltl⟩ := hs.row kx 7 41 60 (by decide) (by decide)
  obtain ⟨lrw, hlrw, klrw, llrw⟩ := hs.row km 15 85 60 (by decide) (by decide)
  have nlt : lw ≠ tl := hu.ne hlw htl (by rw [klw]; decide) (Or.inr (by decide))
  refine r_aload_n hC dL_law_1027 1 rfl ?_
  refine r_aload_n hC dL_law_1028 0 rfl ?_
  refine r_iload hC dL_law_1029 4 rfl ?_
  refine r_iconst hC (v := (1)) dL_law_1031 (by decide) (by decide) (fun x1_ e1 t1 => ?_)
  refine r_iadd hC dL_law_1032 (fun x2_ e2 => ?_)
  have t2 : x2_.toInt = i.toInt + 1 := sAd e2 t1 (by decide) (by decide) hi hiL hL
  refine r_sld hC hXs hb hbA (sLo t2 (by decide) hi) (sHi t2 (by decide) hiL) dL_law_1033 (fun x3_ e3 => ?_)
  refine r_aload_n hC dL_law_1034 0 rfl ?_
  refine r_iload hC dL_law_1035 4 rfl ?_
  refine r_iconst hC (v := (2)) dL_law_1037 (by decide) (by decide) (fun x4_ e4 t4 => ?_)
  refine r_iadd hC dL_law_1038 (fun x5_ e5 => ?_)
  have t5 : x5_.toInt = i.toInt + 2 := sAd e5 t4 (by decide) (by decide) hi hiL hL
  refine r_sld hC hXs hb hbA (sLo t5 (by decide) hi) (sHi t5 (by decide) hiL) dL_law_1039 (fun x6_ e6 => ?_)
  refine r_callV hC (As := [.int x3_, .int x6_]) (rest := []) (ci := 8) (f_X8_dead g (xL X) K len I J R hs x kx x3_ x6_ h hh kh lk hlk2 klk rd hrd krd lw hlw klw llw kn hkn kkn lkn cr hcr kcr1 lcr hu DA EA kc) mT_4_127 mT_1_1 mT_4_124 mT_4_125 mT_4_126 okX8_dead ⟨by decide, by decide⟩ rfl (by show kO (K x) = _; rw [kx]; rfl) rfl rfl (Nat.le_of_ble_eq_true rfl) ⟨Nat.le_trans (show cn + 0 ≤ cn + 18 from Nat.add_le_add_left (by decide) cn) hcn, Nat.le_trans (show sn + 0 ≤ sn + 231 from Nat.add_le_add_left (by decide) sn) hsn⟩ dL_law_1040 (aI1 (F := fun st M => P g X 7 1043 [(0, .ref b), (1, .ref x), (2, .ref m), (3, .ref o), (4, .int i)] st _ _ M) (M := (K, len, I, J, R)) fun x7_ I7 h7 => ?_)
  obtain ⟨hs7, hf7, k7_0, k7_1⟩ := h7
  show P g X 7 1043 [(0, .ref b), (1, .ref x), (2, .ref m), (3, .ref o), (4, .int i)] [.int x7_] cn sn (K, len, I7, J, R)
  refine r_pop hC dL_law_1043 rfl ?_
  refine r_aload_n hC dL_law_1044 2 rfl ?_
  refine r_aload_n hC dL_law_1045 0 rfl ?_
  refine r_iload hC dL_law_1046 4 rfl ?_
  refine r_iconst hC (v := (1)) dL_law_1048 (by decide) (by decide) (fun x8_ e8 t8 => ?_)
  refine r_iadd hC dL_law_1049 (fun x9_ e9 => ?_)
  have t9 : x9_.toInt = i.toInt + 1 := sAd e9 t8 (by decide) (by decide) hi hiL hL
  refine r_sld hC hXs hb hbA (sLo t9 (by decide) hi) (sHi t9 (by decide) hiL) dL_law_1050 (fun x10_ e10 => ?_)
  obtain rfl : x3_ = x10_ := sld_eq e3 e10 (t2.trans t9.symm)
  refine r_aload_n hC dL_law_1051 0 rfl ?_
  refine r_iload hC dL_law_1052 4 rfl ?_
  refine r_iconst hC (v := (2)) dL_law_1054 (by decide) (by decide) (fun x11_ e11 t11 => ?_)
  refine r_iadd hC dL_law_1055 (fun x12_ e12 => ?_)
  have t12 : x12_.toInt = i.toInt + 2 := sAd e12 t11 (by decide) (by decide) hi hiL hL
  refine r_sld hC hXs hb hbA (sLo t12 (by decide) hi) (sHi t12 (by decide) hiL) dL_law_1056 (fun x13_ e13 => ?_)
  obtain rfl : x6_ = x13_ := sld_eq e6 e13 (t5.trans t12.symm)
  refine r_callV hC (As := [.int x3_, .int x6_]) (rest := []) (ci := 10) (c_X10_dead g (xL X) K len I7 J R hs7 m km x3_ x6_) mT_7_59 mT_1_10 mT_7_56 mT_7_57 mT_7_58 okX10_dead ⟨by decide, by decide⟩ rfl (by show kO (K m) = _; rw [km]; rfl) rfl rfl (Nat.le_of_ble_eq_true rfl) ⟨Nat.le_trans (show cn + 0 ≤ cn + 18 from Nat.add_le_add_left (by decide) cn) hcn, Nat.le_trans (show sn + 0 ≤ sn + 231 from Nat.add_le_add_left (by decide) sn) hsn⟩ dL_law_1057 (aI1 (F := fun st M => P g X 7 1060 [(0, .ref b), (1, .ref x), (2, .ref m), (3, .ref o), (4, .int i)] st _ _ M) (M := (K, len, I7, J, R)) fun x14_ I14 h14 => ?_)
  obtain ⟨hs14, hf14, k14_0⟩ := h14
  show P g X 7 1060 [(0, .ref b), (1, .ref x), (2, .ref m), (3, .ref o), (4, .int i)] [.int x14_] cn sn (K, len, I14, J, R)
  have lbv := LBV.ref la lb lv hf7 hf14 rfl rfl rfl k7_1 k14_0
  have lcn := LC.two hu lcb rdm lr hs kx km krd kh klk hf7 hf14 k7_0 rfl rfl rfl
  refine r_pop hC dL_law_1060 rfl ?_
  refine r_goto hC (tgt := 1253) dL_law_1061 (by decide) ?_
  refine r_sub [0, 1, 2, 3, 4] rfl ?_
  refine r_widen hC (k2 := cn + 18) (n2 := sn + 231) (Nat.le_add_right _ _) (Nat.le_add_right _ _) ?_
  exact kk K len I14 J R ⟨hs14, la, ⟨h, s, lk, ls, lh, (lr.mv hf7 kh klk krd km rfl).mv hf14 kh klk krd km rfl, lcn⟩, lbv⟩
set_option maxHeartbeats 4000000 in
set_option maxRecDepth 100000 in
theorem law_28 {g : GG} {X : XT} {b L : Nat} {xs : Nat → Int32} (hX : LX g X b L xs) {x m o tp bt te tk nr pr rd mt cn sn : Nat} {i : Int32} {K len : Nat → Nat} {I : Nat → Nat → Int32} {J : Nat → Nat → Int64} {R : Nat → Nat → Option Nat} (hI : LI x m o tp bt te tk nr pr rd mt K len I R) (hi : 0 ≤ i.toInt) (hiL : i.toInt + 6 ≤ L) (hcn : cn + 18 ≤ 601024) (hsn : sn + 231 ≤ 7293034) (kk : ∀ K' len' I' J' R', LI x m o tp bt te tk nr pr rd mt K' len' I' R' → P g X 7 1253 [(0, .ref b), (1, .ref x), (2, .ref m), (3, .ref o), (4, .int i)] [] (cn + 18) (sn + 231) (K', len', I', J', R')) : P g X 7 1064 [(0, .ref b), (1, .ref x), (2, .ref m), (3, .ref o), (4, .int i)] [] cn sn (K, len, I, J, R) := by
  obtain ⟨hC, hcs, hl, hXs, hb, hbA, hL⟩ := hX
  obtain ⟨hs, la, ⟨h, s, lk, ls, lh, lr, lc⟩, lb, lv⟩ := id hI
  obtain ⟨hu, DA, lcb, EA, kc, rdm⟩ := id lc
  obtain ⟨rwd, scd, lcm⟩ := id lcb
  obtain ⟨sd1, sd2, sd3, sd4, sd5, sd7, sd8, sd9⟩ := id scd
  obtain ⟨kx, km, ⟨ko, no⟩, ⟨htp, ktp⟩, ⟨hbb, kbt, nbt⟩, ⟨hte, kte⟩, ⟨htk, ktk⟩, hbt, ⟨hnr, knr, lnr⟩, ⟨hpr, kpr, lpr⟩, ⟨hrd, krd⟩, ⟨hmt, kmt, nmt⟩⟩ := id la
  obtain ⟨⟨hh, kh⟩, ⟨hs2, ks⟩, ⟨hlk2, klk⟩, ⟨hls, kls⟩, nhs, nls⟩ := id lh
  obtain ⟨lv1, lv2, lv3, lv4⟩ := id lv
  obtain ⟨lw, hlw, klw, llw⟩ := hs.row kx 4 41 60 (by decide) (by decide)
  obtain ⟨kn, hkn, kkn, lkn⟩ := hs.row kx 6 43 6 (by decide) (by decide)
  obtain ⟨cr, hcr, kcr1, lcr⟩ := hs.row kx 5 44 6 (by decide) (by decide)
  have ka : KA x h lk rd K len R := ⟨⟨_, hs⟩, hu, kx, kh, klk, krd⟩
  have rdb9 := hs.rng krd (k := 0) rfl (x := I rd 0) rfl
  obtain ⟨tl, htl, ktl, ltl⟩ := hs.row kx 7 41 60 (by decide) (by decide)
  obtain ⟨lrw, hlrw, klrw, llrw⟩ := hs.row km 15 85 60 (by decide) (by decide)
  have nlt : lw ≠ tl := hu.ne hlw htl (by rw [klw]; decide) (Or.inr (by decide))
  refine r_aload_n hC dL_law_1064 1 rfl ?_
  refine r_aload_n hC dL_law_1065 0 rfl ?_
  refine r_iload hC dL_law_1066 4 rfl ?_
  refine r_iconst hC (v := (1)) dL_law_1068 (by decide) (by decide) (fun x1_ e1 t1 => ?_)
  refine r_iadd hC dL_law_1069 (fun x2_ e2 => ?_)
  have t2 : x2_.toInt = i.toInt + 1 := sAd e2 t1 (by decide) (by decide) hi hiL hL
  refine r_sld hC hXs hb hbA (sLo t2 (by decide) hi) (sHi t2 (by decide) hiL) dL_law_1070 (fun x3_ e3 => ?_)
  refine r_aload_n hC dL_law_1071 0 rfl ?_
  refine r_iload hC dL_law_1072 4 rfl ?_
  refine r_iconst hC (v := (2)) dL_law_1074 (by decide) (by decide) (fun x4_ e4 t4 => ?_)
  refine r_iadd hC dL_law_1075 (fun x5_ e5 => ?_)
  have t5 : x5_.toInt = i.toInt + 2 := sAd e5 t4 (by decide) (by decide) hi hiL hL
  refine r_sld hC hXs hb hbA (sLo t5 (by decide) hi) (sHi t5 (by decide) hiL) dL_law_1076 (fun x6_ e6 => ?_)
  refine r_callV hC (As := [.int x3_, .int x6_]) (rest := []) (ci := 8) (f_X8_tell g (xL X) K len I J R hs x kx x3_ x6_ h hh kh lk hlk2 klk rd hrd krd lw hlw klw llw kn hkn kkn lkn cr hcr kcr1 lcr hu DA EA kc) mT_4_131 mT_1_1 mT_4_128 mT_4_129 mT_4_130 okX8_tell ⟨by decide, by decide⟩ rfl (by show kO (K x) = _; rw [kx]; rfl) rfl rfl (Nat.le_of_ble_eq_true rfl) ⟨Nat.le_trans (show cn + 0 ≤ cn + 18 from Nat.add_le_add_left (by decide) cn) hcn, Nat.le_trans (show sn + 0 ≤ sn + 231 from Nat.add_le_add_left (by decide) sn) hsn⟩ dL_law_1077 (aI1 (F := fun st M => P g X 7 1080 [(0, .ref b), (1, .ref x), (2, .ref m), (3, .ref o), (4, .int i)] st _ _ M) (M := (K, len, I, J, R)) fun x7_ I7 h7 => ?_)
  obtain ⟨hs7, hf7, k7_0, k7_1⟩ := h7
  show P g X 7 1080 [(0, .ref b), (1, .ref x), (2, .ref m), (3, .ref o), (4, .int i)] [.int x7_] cn sn (K, len, I7, J, R)
  refine r_pop hC dL_law_1080 rfl ?_
  refine r_aload_n hC dL_law_1081 2 rfl ?_
  refine r_aload_n hC dL_law_1082 0 rfl ?_
  refine r_iload hC dL_law_1083 4 rfl ?_
  refine r_iconst hC (v := (1)) dL_law_1085 (by decide) (by decide) (fun x8_ e8 t8 => ?_)
  refine r_iadd hC dL_law_1086 (fun x9_ e9 => ?_)
  have t9 : x9_.toInt = i.toInt + 1 := sAd e9 t8 (by decide) (by decide) hi hiL hL
  refine r_sld hC hXs hb hbA (sLo t9 (by decide) hi) (sHi t9 (by decide) hiL) dL_law_1087 (fun x10_ e10 => ?_)
  obtain rfl : x3_ = x10_ := sld_eq e3 e10 (t2.trans t9.symm)
  refine r_aload_n hC dL_law_1088 0 rfl ?_
  refine r_iload hC dL_law_1089 4 rfl ?_
  refine r_iconst hC (v := (2)) dL_law_1091 (by decide) (by decide) (fun x11_ e11 t11 => ?_)
  refine r_iadd hC dL_law_1092 (fun x12_ e12 => ?_)
  have t12 : x12_.toInt = i.toInt + 2 := sAd e12 t11 (by decide) (by decide) hi hiL hL
  refine r_sld hC hXs hb hbA (sLo t12 (by decide) hi) (sHi t12 (by decide) hiL) dL_law_1093 (fun x13_ e13 => ?_)
  obtain rfl : x6_ = x13_ := sld_eq e6 e13 (t5.trans t12.symm)
  refine r_callV hC (As := [.int x3_, .int x6_]) (rest := []) (ci := 10) (c_X10_tell g (xL X) K len I7 J R hs7 m km x3_ x6_) mT_7_63 mT_1_10 mT_7_60 mT_7_61 mT_7_62 okX10_tell ⟨by decide, by decide⟩ rfl (by show kO (K m) = _; rw [km]; rfl) rfl rfl (Nat.le_of_ble_eq_true rfl) ⟨Nat.le_trans (show cn + 0 ≤ cn + 18 from Nat.add_le_add_left (by decide) cn) hcn, Nat.le_trans (show sn + 0 ≤ sn + 231 from Nat.add_le_add_left (by decide) sn) hsn⟩ dL_law_1094 (aI1 (F := fun st M => P g X 7 1097 [(0, .ref b), (1, .ref x), (2, .ref m), (3, .ref o), (4, .int i)] st _ _ M) (M := (K, len, I7, J, R)) fun x14_ I14 h14 => ?_)
  obtain ⟨hs14, hf14, k14_0⟩ := h14
  show P g X 7 1097 [(0, .ref b), (1, .ref x), (2, .ref m), (3, .ref o), (4, .int i)] [.int x14_] cn sn (K, len, I14, J, R)
  have lbv := LBV.ref la lb lv hf7 hf14 rfl rfl rfl k7_1 k14_0
  have lcn := LC.two hu lcb rdm lr hs kx km krd kh klk hf7 hf14 k7_0 rfl rfl rfl
  refine r_pop hC dL_law_1097 rfl ?_
  refine r_goto hC (tgt := 1253) dL_law_1098 (by decide) ?_
  refine r_sub [0, 1, 2, 3, 4] rfl ?_
  refine r_widen hC (k2 := cn + 18) (n2 := sn + 231) (Nat.le_add_right _ _) (Nat.le_add_right _ _) ?_
  exact kk K len I14 J R ⟨hs14, la, ⟨h, s, lk, ls, lh, (lr.mv hf7 kh klk krd km rfl).mv hf14 kh klk krd km rfl, lcn⟩, lbv⟩
set_option maxHeartbeats 4000000 in
set_option maxRecDepth 100000 in
theorem law_29 {g : GG} {X : XT} {b L : Nat} {xs : Nat → Int32} (hX : LX g X b L xs) {x m o tp bt te tk nr pr rd mt cn sn : Nat} {i : Int32} {K len : Nat → Nat} {I : Nat → Nat → Int32} {J : Nat → Nat → Int64} {R : Nat → Nat → Option Nat} (hI : LI x m o tp bt te tk nr pr rd mt K len I R) (hi : 0 ≤ i.toInt) (hiL : i.toInt + 6 ≤ L) (hcn : cn + 18 ≤ 601024) (hsn : sn + 231 ≤ 7293034) (kk : ∀ K' len' I' J' R', LI x m o tp bt te tk nr pr rd mt K' len' I' R' → P g X 7 1253 [(0, .ref b), (1, .ref x), (2, .ref m), (3, .ref o), (4, .int i)] [] (cn + 18) (sn + 231) (K', len', I', J', R')) : P g X 7 1101 [(0, .ref b), (1, .ref x), (2, .ref m), (3, .ref o), (4, .int i)] [] cn sn (K, len, I, J, R) := by
  obtain ⟨hC, hcs, hl, hXs, hb, hbA, hL⟩ := hX
  obtain ⟨hs, la, ⟨h, s, lk, ls, lh, lr, lc⟩, lb, lv⟩ := id hI
  obtain ⟨hu, DA, lcb, EA, kc, rdm⟩ := id lc
  obtain ⟨rwd, scd, lcm⟩ := id lcb
  obtain ⟨sd1, sd2, sd3, sd4, sd5, sd7, sd8, sd9⟩ := id scd
  obtain ⟨kx, km, ⟨ko, no⟩, ⟨htp, ktp⟩, ⟨hbb, kbt, nbt⟩, ⟨hte, kte⟩, ⟨htk, ktk⟩, hbt, ⟨hnr, knr, lnr⟩, ⟨hpr, kpr, lpr⟩, ⟨hrd, krd⟩, ⟨hmt, kmt, nmt⟩⟩ := id la
  obtain ⟨⟨hh, kh⟩, ⟨hs2, ks⟩, ⟨hlk2, klk⟩, ⟨hls, kls⟩, nhs, nls⟩ := id lh
  obtain ⟨lv1, lv2, lv3, lv4⟩ := id lv
  obtain ⟨lw, hlw, klw, llw⟩ := hs.row kx 4 41 60 (by decide) (by decide)
  obtain ⟨kn, hkn, kkn, lkn⟩ := hs.row kx 6 43 6 (by decide) (by decide)
  obtain ⟨cr, hcr, kcr1, lcr⟩ := hs.row kx 5 44 6 (by decide) (by decide)
  have ka : KA x h lk rd K len R := ⟨⟨_, hs⟩, hu, kx, kh, klk, krd⟩
  have rdb9 := hs.rng krd (k := 0) rfl (x := I rd 0) rfl
  obtain ⟨tl, htl, ktl, ltl⟩ := hs.row kx 7 41 60 (by decide) (by decide)
  obtain ⟨lrw, hlrw, klrw, llrw⟩ := hs.row km 15 85 60 (by decide) (by decide)
  have nlt : lw ≠ tl := hu.ne hlw htl (by rw [klw]; decide) (Or.inr (by decide))
  refine r_aload_n hC dL_law_1101 1 rfl ?_
  refine r_aload_n hC dL_law_1102 0 rfl ?_
  refine r_iload hC dL_law_1103 4 rfl ?_
  refine r_iconst hC (v := (1)) dL_law_1105 (by decide) (by decide) (fun x1_ e1 t1 => ?_)
  refine r_iadd hC dL_law_1106 (fun x2_ e2 => ?_)
  have t2 : x2_.toInt = i.toInt + 1 := sAd e2 t1 (by decide) (by decide) hi hiL hL
  refine r_sld hC hXs hb hbA (sLo t2 (by decide) hi) (sHi t2 (by decide) hiL) dL_law_1107 (fun x3_ e3 => ?_)
  refine r_aload_n hC dL_law_1108 0 rfl ?_
  refine r_iload hC dL_law_1109 4 rfl ?_
  refine r_iconst hC (v := (2)) dL_law_1111 (by decide) (by decide) (fun x4_ e4 t4 => ?_)
  refine r_iadd hC dL_law_1112 (fun x5_ e5 => ?_)
  have t5 : x5_.toInt = i.toInt + 2 := sAd e5 t4 (by decide) (by decide) hi hiL hL
  refine r_sld hC hXs hb hbA (sLo t5 (by decide) hi) (sHi t5 (by decide) hiL) dL_law_1113 (fun x6_ e6 => ?_)
  refine r_aload_n hC dL_law_1114 0 rfl ?_
  refine r_iload hC dL_law_1115 4 rfl ?_
  refine r_iconst hC (v := (3)) dL_law_1117 (by decide) (by decide) (fun x7_ e7 t7 => ?_)
  refine r_iadd hC dL_law_1118 (fun x8_ e8 => ?_)
  have t8 : x8_.toInt = i.toInt + 3 := sAd e8 t7 (by decide) (by decide) hi hiL hL
  refine r_sld hC hXs hb hbA (sLo t8 (by decide) hi) (sHi t8 (by decide) hiL) dL_law_1119 (fun x9_ e9 => ?_)
  refine r_callV hC (As := [.int x3_, .int x6_, .int x9_]) (rest := []) (ci := 8) (f_X8_part g (xL X) K len I J R hs x kx x3_ x6_ x9_ h hh kh lk hlk2 klk rd hrd krd lw hlw klw llw kn hkn kkn lkn cr hcr kcr1 lcr hu DA EA kc) mT_4_137 mT_1_1 mT_4_134 mT_4_135 mT_4_136 okX8_part ⟨by decide, by decide⟩ rfl (by show kO (K x) = _; rw [kx]; rfl) rfl rfl (Nat.le_of_ble_eq_true rfl) ⟨Nat.le_trans (show cn + 0 ≤ cn + 18 from Nat.add_le_add_left (by decide) cn) hcn, Nat.le_trans (show sn + 0 ≤ sn + 231 from Nat.add_le_add_left (by decide) sn) hsn⟩ dL_law_1120 (aI1 (F := fun st M => P g X 7 1123 [(0, .ref b), (1, .ref x), (2, .ref m), (3, .ref o), (4, .int i)] st _ _ M) (M := (K, len, I, J, R)) fun x10_ I10 h10 => ?_)
  obtain ⟨hs10, hf10, k10_0, k10_1⟩ := h10
  show P g X 7 1123 [(0, .ref b), (1, .ref x), (2, .ref m), (3, .ref o), (4, .int i)] [.int x10_] cn sn (K, len, I10, J, R)
  refine r_pop hC dL_law_1123 rfl ?_
  refine r_aload_n hC dL_law_1124 2 rfl ?_
  refine r_aload_n hC dL_law_1125 0 rfl ?_
  refine r_iload hC dL_law_1126 4 rfl ?_
  refine r_iconst hC (v := (1)) dL_law_1128 (by decide) (by decide) (fun x11_ e11 t11 => ?_)
  refine r_iadd hC dL_law_1129 (fun x12_ e12 => ?_)
  have t12 : x12_.toInt = i.toInt + 1 := sAd e12 t11 (by decide) (by decide) hi hiL hL
  refine r_sld hC hXs hb hbA (sLo t12 (by decide) hi) (sHi t12 (by decide) hiL) dL_law_1130 (fun x13_ e13 => ?_)
  obtain rfl : x3_ = x13_ := sld_eq e3 e13 (t2.trans t12.symm)
  refine r_aload_n hC dL_law_1131 0 rfl ?_
  refine r_iload hC dL_law_1132 4 rfl ?_
  refine r_iconst hC (v := (2)) dL_law_1134 (by decide) (by decide) (fun x14_ e14 t14 => ?_)
  refine r_iadd hC dL_law_1135 (fun x15_ e15 => ?_)
  have t15 : x15_.toInt = i.toInt + 2 := sAd e15 t14 (by decide) (by decide) hi hiL hL
  refine r_sld hC hXs hb hbA (sLo t15 (by decide) hi) (sHi t15 (by decide) hiL) dL_law_1136 (fun x16_ e16 => ?_)
  obtain rfl : x6_ = x16_ := sld_eq e6 e16 (t5.trans t15.symm)
  refine r_aload_n hC dL_law_1137 0 rfl ?_
  refine r_iload hC dL_law_1138 4 rfl ?_
  refine r_iconst hC (v := (3)) dL_law_1140 (by decide) (by decide) (fun x17_ e17 t17 => ?_)
  refine r_iadd hC dL_law_1141 (fun x18_ e18 => ?_)
  have t18 : x18_.toInt = i.toInt + 3 := sAd e18 t17 (by decide) (by decide) hi hiL hL
  refine r_sld hC hXs hb hbA (sLo t18 (by decide) hi) (sHi t18 (by decide) hiL) dL_law_1142 (fun x19_ e19 => ?_)
  obtain rfl : x9_ = x19_ := sld_eq e9 e19 (t8.trans t18.symm)
  refine r_callV hC (As := [.int x3_, .int x6_, .int x9_]) (rest := []) (ci := 10) (c_X10_part g (xL X) K len I10 J R hs10 m km x3_ x6_ x9_) mT_7_68 mT_1_10 mT_7_65 mT_7_66 mT_7_67 okX10_part ⟨by decide, by decide⟩ rfl (by show kO (K m) = _; rw [km]; rfl) rfl rfl (Nat.le_of_ble_eq_true rfl) ⟨Nat.le_trans (show cn + 0 ≤ cn + 18 from Nat.add_le_add_left (by decide) cn) hcn, Nat.le_trans (show sn + 0 ≤ sn + 231 from Nat.add_le_add_left (by decide) sn) hsn⟩ dL_law_1143 (aI1 (F := fun st M => P g X 7 1146 [(0, .ref b), (1, .ref x), (2, .ref m), (3, .ref o), (4, .int i)] st _ _ M) (M := (K, len, I10, J, R)) fun x20_ I20 h20 => ?_)
  obtain ⟨hs20, hf20, k20_0⟩ := h20
  show P g X 7 1146 [(0, .ref b), (1, .ref x), (2, .ref m), (3, .ref o), (4, .int i)] [.int x20_] cn sn (K, len, I20, J, R)
  have lbv := LBV.ref la lb lv hf10 hf20 rfl rfl rfl k10_1 k20_0
  have lcn := LC.two hu lcb rdm lr hs kx km krd kh klk hf10 hf20 k10_0 rfl rfl rfl
  refine r_pop hC dL_law_1146 rfl ?_
  refine r_goto hC (tgt := 1253) dL_law_1147 (by decide) ?_
  refine r_sub [0, 1, 2, 3, 4] rfl ?_
  refine r_widen hC (k2 := cn + 18) (n2 := sn + 231) (Nat.le_add_right _ _) (Nat.le_add_right _ _) ?_
  exact kk K len I20 J R ⟨hs20, la, ⟨h, s, lk, ls, lh, (lr.mv hf10 kh klk krd km rfl).mv hf20 kh klk krd km rfl, lcn⟩, lbv⟩
set_option maxHeartbeats 4000000 in
set_option maxRecDepth 100000 in
theorem law_30 {g : GG} {X : XT} {b L : Nat} {xs : Nat → Int32} (hX : LX g X b L xs) {x m o tp bt te tk nr pr rd mt cn sn : Nat} {i : Int32} {K len : Nat → Nat} {I : Nat → Nat → Int32} {J : Nat → Nat → Int64} {R : Nat → Nat → Option Nat} (hI : LI x m o tp bt te tk nr pr rd mt K len I R) (hi : 0 ≤ i.toInt) (hiL : i.toInt + 6 ≤ L) (hcn : cn + 18 ≤ 601024) (hsn : sn + 231 ≤ 7293034) (kk : ∀ K' len' I' J' R', LI x m o tp bt te tk nr pr rd mt K' len' I' R' → P g X 7 1253 [(0, .ref b), (1, .ref x), (2, .ref m), (3, .ref o), (4, .int i)] [] (cn + 18) (sn + 231) (K', len', I', J', R')) : P g X 7 1150 [(0, .ref b), (1, .ref x), (2, .ref m), (3, .ref o), (4, .int i)] [] cn sn (K, len, I, J, R) := by
  obtain ⟨hC, hcs, hl, hXs, hb, hbA, hL⟩ := hX
  obtain ⟨hs, la, ⟨h, s, lk, ls, lh, lr, lc⟩, lb, lv⟩ := id hI
  obtain ⟨hu, DA, lcb, EA, kc, rdm⟩ := id lc
  obtain ⟨rwd, scd, lcm⟩ := id lcb
  obtain ⟨sd1, sd2, sd3, sd4, sd5, sd7, sd8, sd9⟩ := id scd
  obtain ⟨kx, km, ⟨ko, no⟩, ⟨htp, ktp⟩, ⟨hbb, kbt, nbt⟩, ⟨hte, kte⟩, ⟨htk, ktk⟩, hbt, ⟨hnr, knr, lnr⟩, ⟨hpr, kpr, lpr⟩, ⟨hrd, krd⟩, ⟨hmt, kmt, nmt⟩⟩ := id la
  obtain ⟨⟨hh, kh⟩, ⟨hs2, ks⟩, ⟨hlk2, klk⟩, ⟨hls, kls⟩, nhs, nls⟩ := id lh
  obtain ⟨lv1, lv2, lv3, lv4⟩ := id lv
  obtain ⟨lw, hlw, klw, llw⟩ := hs.row kx 4 41 60 (by decide) (by decide)
  obtain ⟨kn, hkn, kkn, lkn⟩ := hs.row kx 6 43 6 (by decide) (by decide)
  obtain ⟨cr, hcr, kcr1, lcr⟩ := hs.row kx 5 44 6 (by decide) (by decide)
  have ka : KA x h lk rd K len R := ⟨⟨_, hs⟩, hu, kx, kh, klk, krd⟩
  have rdb9 := hs.rng krd (k := 0) rfl (x := I rd 0) rfl
  obtain ⟨tl, htl, ktl, ltl⟩ := hs.row kx 7 41 60 (by decide) (by decide)
  obtain ⟨lrw, hlrw, klrw, llrw⟩ := hs.row km 15 85 60 (by decide) (by decide)
  have nlt : lw ≠ tl := hu.ne hlw htl (by rw [klw]; decide) (Or.inr (by decide))
  refine r_aload_n hC dL_law_1150 1 rfl ?_
  refine r_aload_n hC dL_law_1151 0 rfl ?_
  refine r_iload hC dL_law_1152 4 rfl ?_
  refine r_iconst hC (v := (1)) dL_law_1154 (by decide) (by decide) (fun x1_ e1 t1 => ?_)
  refine r_iadd hC dL_law_1155 (fun x2_ e2 => ?_)
  have t2 : x2_.toInt = i.toInt + 1 := sAd e2 t1 (by decide) (by decide) hi hiL hL
  refine r_sld hC hXs hb hbA (sLo t2 (by decide) hi) (sHi t2 (by decide) hiL) dL_law_1156 (fun x3_ e3 => ?_)
  refine r_callV hC (As := [.int x3_]) (rest := []) (ci := 8) (a_X8_knew g (xL X) K len I J R hs x kx x3_ h hh kh lk hlk2 klk rd hrd krd lw hlw klw llw kn hkn kkn lkn cr hcr kcr1 lcr hu DA EA kc (I rd 0).toInt.toNat (by omega)) mT_4_141 mT_1_1 mT_4_138 mT_4_139 mT_4_140 okX8_knew ⟨by decide, by decide⟩ rfl (by show kO (K x) = _; rw [kx]; rfl) rfl rfl (Nat.le_of_ble_eq_true rfl) ⟨Nat.le_trans (show cn + 0 ≤ cn + 18 from Nat.add_le_add_left (by decide) cn) hcn, Nat.le_trans (show sn + 0 ≤ sn + 231 from Nat.add_le_add_left (by decide) sn) hsn⟩ dL_law_1157 (aI1 (F := fun st M => P g X 7 1160 [(0, .ref b), (1, .ref x), (2, .ref m), (3, .ref o), (4, .int i)] st _ _ M) (M := (K, len, I, J, R)) fun x4_ I4 h4 => ?_)
  obtain ⟨hs4, hf4, k4_0, k4_1, k4_2⟩ := h4
  show P g X 7 1160 [(0, .ref b), (1, .ref x), (2, .ref m), (3, .ref o), (4, .int i)] [.int x4_] cn sn (K, len, I4, J, R)
  replace k4_1 := Hid.mk k4_1
  refine r_aload_n hC dL_law_1160 2 rfl ?_
  refine r_aload_n hC dL_law_1161 0 rfl ?_
  refine r_iload hC dL_law_1162 4 rfl ?_
  refine r_iconst hC (v := (1)) dL_law_1164 (by decide) (by decide) (fun x5_ e5 t5 => ?_)
  refine r_iadd hC dL_law_1165 (fun x6_ e6 => ?_)
  have t6 : x6_.toInt = i.toInt + 1 := sAd e6 t5 (by decide) (by decide) hi hiL hL
  refine r_sld hC hXs hb hbA (sLo t6 (by decide) hi) (sHi t6 (by decide) hiL) dL_law_1166 (fun x7_ e7 => ?_)
  obtain rfl : x3_ = x7_ := sld_eq e3 e7 (t2.trans t6.symm)
  refine r_callV hC (As := [.int x3_]) (rest := [.int x4_]) (ci := 10) (f_X10_knew g (xL X) K len I4 J R hs4 m km x3_ DA EA (LC.mc lcb kc rdm lr hs km hf4 rfl) (I rd 0).toInt.toNat (by rw [hf4.get km rfl, ← lr.1]; omega)) mT_7_72 mT_1_10 mT_7_69 mT_7_70 mT_7_71 okX10_knew ⟨by decide, by decide⟩ rfl (by show kO (K m) = _; rw [km]; rfl) rfl rfl (Nat.le_of_ble_eq_true rfl) ⟨Nat.le_trans (show cn + 0 ≤ cn + 18 from Nat.add_le_add_left (by decide) cn) hcn, Nat.le_trans (show sn + 0 ≤ sn + 231 from Nat.add_le_add_left (by decide) sn) hsn⟩ dL_law_1167 (aI1 (F := fun st M => P g X 7 1170 [(0, .ref b), (1, .ref x), (2, .ref m), (3, .ref o), (4, .int i)] st _ _ M) (M := (K, len, I4, J, R)) fun x8_ I8 h8 => ?_)
  obtain ⟨hs8, hf8, k8_0, k8_1⟩ := h8
  show P g X 7 1170 [(0, .ref b), (1, .ref x), (2, .ref m), (3, .ref o), (4, .int i)] [.int x8_, .int x4_] cn sn (K, len, I8, J, R)
  have lbv := LBV.ref la lb lv hf4 hf8 rfl rfl rfl k4_2 k8_1
  have lcn := LC.two hu lcb rdm lr hs kx km krd kh klk hf4 hf8 k4_0 rfl rfl rfl
  have eqv : x4_.toInt = x8_.toInt := by
    rcases k8_0 with ⟨z9, y9⟩ | ⟨hm9, z9, y9⟩
    · rcases lr.2 with ⟨r3, n1, n2, n3, n4, n5, -⟩ | ⟨hm, r3, -⟩
      · rcases (Hid.out k4_1) with ⟨w1, w2⟩ | ⟨w1, w2⟩
        · exfalso; omega
        · rw [w2, y9]
      · rw [r3] at z9; cases z9
    · exact eq_two (Hid.out k4_1) y9
  refine r_icmp_eq hC (tgt := 1253) dL_law_1170 (by decide) (fun c => ?_) (fun c => ?_)
  rotate_left
  · exact absurd eqv c
  refine r_sub [0, 1, 2, 3, 4] rfl ?_
  refine r_widen hC (k2 := cn + 18) (n2 := sn + 231) (Nat.le_add_right _ _) (Nat.le_add_right _ _) ?_
  exact kk K len I8 J R ⟨hs8, la, ⟨h, s, lk, ls, lh, (lr.mv hf4 kh klk krd km rfl).mv hf8 kh klk krd km rfl, lcn⟩, lbv⟩

