set_option maxHeartbeats 4000000 in
set_option maxRecDepth 100000 in
theorem law_25 {g : GG} {X : XT} {b L : Nat} {xs : Nat → Int32} (hX : LX g X b L xs) {x m o tp bt te tk nr pr rd mt cn sn : Nat} {i : Int32} {K len : Nat → Nat} {I : Nat → Nat → Int32} {J : Nat → Nat → Int64} {R : Nat → Nat → Option Nat} (hI : LI x m o tp bt te tk nr pr rd mt K len I R) (hi : 0 ≤ i.toInt) (hiL : i.toInt + 6 ≤ L) (hcn : cn + 18 ≤ 601024) (hsn : sn + 231 ≤ 7293034) (kk : ∀ K' len' I' J' R', LI x m o tp bt te tk nr pr rd mt K' len' I' R' → P g X 7 1253 [(0, .ref b), (1, .ref x), (2, .ref m), (3, .ref o), (4, .int i)] [] (cn + 18) (sn + 231) (K', len', I', J', R')) : P g X 7 977 [(0, .ref b), (1, .ref x), (2, .ref m), (3, .ref o), (4, .int i)] [] cn sn (K, len, I, J, R) := by
  obtain ⟨hC, hcs, hl, hXs, hb, hbA, hL⟩ := hX
  obtain ⟨hs, la, ⟨h, s, lk, ls, lh, lr, lc⟩, lb, lv⟩ := id hI
  obtain ⟨hu, DA, rwd, scd, lcm⟩ := id lc
  obtain ⟨sd1, sd2, sd3, sd4, sd5, sd7, sd8, sd9⟩ := id scd
  obtain ⟨kx, km, ⟨ko, no⟩, ⟨htp, ktp⟩, ⟨hbb, kbt, nbt⟩, ⟨hte, kte⟩, ⟨htk, ktk⟩, hbt, ⟨hnr, knr, lnr⟩, ⟨hpr, kpr, lpr⟩, ⟨hrd, krd⟩, ⟨hmt, kmt, nmt⟩⟩ := id la
  obtain ⟨⟨hh, kh⟩, ⟨hs2, ks⟩, ⟨hlk2, klk⟩, ⟨hls, kls⟩, nhs, nls⟩ := id lh
  obtain ⟨lv1, lv2, lv3, lv4⟩ := id lv
  obtain ⟨lw, hlw, klw, llw⟩ := hs.row kx 4 41 60 (by decide) (by decide)
  obtain ⟨kn, hkn, kkn, lkn⟩ := hs.row kx 6 43 6 (by decide) (by decide)
  obtain ⟨tl, htl, ktl, ltl⟩ := hs.row kx 7 41 60 (by decide) (by decide)
  obtain ⟨lrw, hlrw, klrw, llrw⟩ := hs.row km 15 85 60 (by decide) (by decide)
  have nlt : lw ≠ tl := hu.ne hlw htl (by rw [klw]; decide) (Or.inr (by decide))
  refine r_aload_n hC dL_law_977 1 rfl ?_
  refine r_callV hC (As := []) (rest := []) (ci := 8) (c_X8_bore g (xL X) K len I J R hs x kx ) mT_4_102 mT_1_1 mT_4_99 mT_4_100 mT_4_101 okX8_bore ⟨by decide, by decide⟩ rfl (by show kO (K x) = _; rw [kx]; rfl) rfl rfl (Nat.le_of_ble_eq_true rfl) ⟨by show cn + 0 ≤ 601024; omega, by show sn + 0 ≤ 7293034; omega⟩ dL_law_978 (aI1 (F := fun st M => P g X 7 981 [(0, .ref b), (1, .ref x), (2, .ref m), (3, .ref o), (4, .int i)] st _ _ M) (M := (K, len, I, J, R)) fun x1_ I1 h1 => ?_)
  obtain ⟨hs1, hf1, k1_0⟩ := h1
  show P g X 7 981 [(0, .ref b), (1, .ref x), (2, .ref m), (3, .ref o), (4, .int i)] [.int x1_] cn sn (K, len, I1, J, R)
  refine r_pop hC dL_law_981 rfl ?_
  refine r_aload_n hC dL_law_982 2 rfl ?_
  refine r_callV hC (As := []) (rest := []) (ci := 10) (c_X10_bore g (xL X) K len I1 J R hs1 m km ) mT_7_39 mT_1_10 mT_7_36 mT_7_37 mT_7_38 okX10_bore ⟨by decide, by decide⟩ rfl (by show kO (K m) = _; rw [km]; rfl) rfl rfl (Nat.le_of_ble_eq_true rfl) ⟨by show cn + 0 ≤ 601024; omega, by show sn + 0 ≤ 7293034; omega⟩ dL_law_983 (aI1 (F := fun st M => P g X 7 986 [(0, .ref b), (1, .ref x), (2, .ref m), (3, .ref o), (4, .int i)] st _ _ M) (M := (K, len, I1, J, R)) fun x2_ I2 h2 => ?_)
  obtain ⟨hs2, hf2, k2_0⟩ := h2
  show P g X 7 986 [(0, .ref b), (1, .ref x), (2, .ref m), (3, .ref o), (4, .int i)] [.int x2_] cn sn (K, len, I2, J, R)
  refine r_pop hC dL_law_986 rfl ?_
  refine r_goto hC (tgt := 1253) dL_law_987 (by decide) ?_
  refine r_sub [0, 1, 2, 3, 4] rfl ?_
  refine r_widen hC (k2 := cn + 18) (n2 := sn + 231) (by omega) (by omega) ?_
  exact kk K len I2 J R (hI.ref hs2 hf1 hf2 rfl rfl rfl rfl rfl rfl rfl k1_0 k2_0)
set_option maxHeartbeats 4000000 in
set_option maxRecDepth 100000 in
theorem law_26 {g : GG} {X : XT} {b L : Nat} {xs : Nat → Int32} (hX : LX g X b L xs) {x m o tp bt te tk nr pr rd mt cn sn : Nat} {i : Int32} {K len : Nat → Nat} {I : Nat → Nat → Int32} {J : Nat → Nat → Int64} {R : Nat → Nat → Option Nat} (hI : LI x m o tp bt te tk nr pr rd mt K len I R) (hi : 0 ≤ i.toInt) (hiL : i.toInt + 6 ≤ L) (hcn : cn + 18 ≤ 601024) (hsn : sn + 231 ≤ 7293034) (kk : ∀ K' len' I' J' R', LI x m o tp bt te tk nr pr rd mt K' len' I' R' → P g X 7 1253 [(0, .ref b), (1, .ref x), (2, .ref m), (3, .ref o), (4, .int i)] [] (cn + 18) (sn + 231) (K', len', I', J', R')) : P g X 7 990 [(0, .ref b), (1, .ref x), (2, .ref m), (3, .ref o), (4, .int i)] [] cn sn (K, len, I, J, R) := by
  obtain ⟨hC, hcs, hl, hXs, hb, hbA, hL⟩ := hX
  obtain ⟨hs, la, ⟨h, s, lk, ls, lh, lr, lc⟩, lb, lv⟩ := id hI
  obtain ⟨hu, DA, rwd, scd, lcm⟩ := id lc
  obtain ⟨sd1, sd2, sd3, sd4, sd5, sd7, sd8, sd9⟩ := id scd
  obtain ⟨kx, km, ⟨ko, no⟩, ⟨htp, ktp⟩, ⟨hbb, kbt, nbt⟩, ⟨hte, kte⟩, ⟨htk, ktk⟩, hbt, ⟨hnr, knr, lnr⟩, ⟨hpr, kpr, lpr⟩, ⟨hrd, krd⟩, ⟨hmt, kmt, nmt⟩⟩ := id la
  obtain ⟨⟨hh, kh⟩, ⟨hs2, ks⟩, ⟨hlk2, klk⟩, ⟨hls, kls⟩, nhs, nls⟩ := id lh
  obtain ⟨lv1, lv2, lv3, lv4⟩ := id lv
  obtain ⟨lw, hlw, klw, llw⟩ := hs.row kx 4 41 60 (by decide) (by decide)
  obtain ⟨kn, hkn, kkn, lkn⟩ := hs.row kx 6 43 6 (by decide) (by decide)
  obtain ⟨tl, htl, ktl, ltl⟩ := hs.row kx 7 41 60 (by decide) (by decide)
  obtain ⟨lrw, hlrw, klrw, llrw⟩ := hs.row km 15 85 60 (by decide) (by decide)
  have nlt : lw ≠ tl := hu.ne hlw htl (by rw [klw]; decide) (Or.inr (by decide))
  refine r_aload_n hC dL_law_990 1 rfl ?_
  refine r_aload_n hC dL_law_991 0 rfl ?_
  refine r_iload hC dL_law_992 4 rfl ?_
  refine r_iconst hC (v := (1)) dL_law_994 (by decide) (by decide) (fun x1_ e1 t1 => ?_)
  refine r_iadd hC dL_law_995 (fun x2_ e2 => ?_)
  try have t2 : x2_.toInt = i.toInt + x1_.toInt := by rw [e2]; exact ti_add (by omega) (by omega)
  refine r_sld hC hXs hb hbA (by omega) (by omega) dL_law_996 (fun x3_ e3 => ?_)
  refine r_aload_n hC dL_law_997 0 rfl ?_
  refine r_iload hC dL_law_998 4 rfl ?_
  refine r_iconst hC (v := (2)) dL_law_1000 (by decide) (by decide) (fun x4_ e4 t4 => ?_)
  refine r_iadd hC dL_law_1001 (fun x5_ e5 => ?_)
  try have t5 : x5_.toInt = i.toInt + x4_.toInt := by rw [e5]; exact ti_add (by omega) (by omega)
  refine r_sld hC hXs hb hbA (by omega) (by omega) dL_law_1002 (fun x6_ e6 => ?_)
  refine r_callV hC (As := [.int x3_, .int x6_]) (rest := []) (ci := 8) (c_X8_struck g (xL X) K len I J R hs x kx x3_ x6_) mT_4_115 mT_1_1 mT_4_112 mT_4_113 mT_4_114 okX8_struck ⟨by decide, by decide⟩ rfl (by show kO (K x) = _; rw [kx]; rfl) rfl rfl (Nat.le_of_ble_eq_true rfl) ⟨by show cn + 0 ≤ 601024; omega, by show sn + 0 ≤ 7293034; omega⟩ dL_law_1003 (aI1 (F := fun st M => P g X 7 1006 [(0, .ref b), (1, .ref x), (2, .ref m), (3, .ref o), (4, .int i)] st _ _ M) (M := (K, len, I, J, R)) fun x7_ I7 h7 => ?_)
  obtain ⟨hs7, hf7, k7_0⟩ := h7
  show P g X 7 1006 [(0, .ref b), (1, .ref x), (2, .ref m), (3, .ref o), (4, .int i)] [.int x7_] cn sn (K, len, I7, J, R)
  refine r_pop hC dL_law_1006 rfl ?_
  refine r_aload_n hC dL_law_1007 2 rfl ?_
  refine r_aload_n hC dL_law_1008 0 rfl ?_
  refine r_iload hC dL_law_1009 4 rfl ?_
  refine r_iconst hC (v := (1)) dL_law_1011 (by decide) (by decide) (fun x8_ e8 t8 => ?_)
  refine r_iadd hC dL_law_1012 (fun x9_ e9 => ?_)
  try have t9 : x9_.toInt = i.toInt + x8_.toInt := by rw [e9]; exact ti_add (by omega) (by omega)
  refine r_sld hC hXs hb hbA (by omega) (by omega) dL_law_1013 (fun x10_ e10 => ?_)
  obtain rfl : x3_ = x10_ := sld_eq e3 e10 (by omega)
  refine r_aload_n hC dL_law_1014 0 rfl ?_
  refine r_iload hC dL_law_1015 4 rfl ?_
  refine r_iconst hC (v := (2)) dL_law_1017 (by decide) (by decide) (fun x11_ e11 t11 => ?_)
  refine r_iadd hC dL_law_1018 (fun x12_ e12 => ?_)
  try have t12 : x12_.toInt = i.toInt + x11_.toInt := by rw [e12]; exact ti_add (by omega) (by omega)
  refine r_sld hC hXs hb hbA (by omega) (by omega) dL_law_1019 (fun x13_ e13 => ?_)
  obtain rfl : x6_ = x13_ := sld_eq e6 e13 (by omega)
  refine r_callV hC (As := [.int x3_, .int x6_]) (rest := []) (ci := 10) (c_X10_struck g (xL X) K len I7 J R hs7 m km x3_ x6_) mT_7_47 mT_1_10 mT_7_44 mT_7_45 mT_7_46 okX10_struck ⟨by decide, by decide⟩ rfl (by show kO (K m) = _; rw [km]; rfl) rfl rfl (Nat.le_of_ble_eq_true rfl) ⟨by show cn + 0 ≤ 601024; omega, by show sn + 0 ≤ 7293034; omega⟩ dL_law_1020 (aI1 (F := fun st M => P g X 7 1023 [(0, .ref b), (1, .ref x), (2, .ref m), (3, .ref o), (4, .int i)] st _ _ M) (M := (K, len, I7, J, R)) fun x14_ I14 h14 => ?_)
  obtain ⟨hs14, hf14, k14_0⟩ := h14
  show P g X 7 1023 [(0, .ref b), (1, .ref x), (2, .ref m), (3, .ref o), (4, .int i)] [.int x14_] cn sn (K, len, I14, J, R)
  refine r_pop hC dL_law_1023 rfl ?_
  refine r_goto hC (tgt := 1253) dL_law_1024 (by decide) ?_
  refine r_sub [0, 1, 2, 3, 4] rfl ?_
  refine r_widen hC (k2 := cn + 18) (n2 := sn + 231) (by omega) (by omega) ?_
  exact kk K len I14 J R (hI.ref hs14 hf7 hf14 rfl rfl rfl rfl rfl rfl rfl k7_0 k14_0)
set_option maxHeartbeats 4000000 in
set_option maxRecDepth 100000 in
theorem law_27 {g : GG} {X : XT} {b L : Nat} {xs : Nat → Int32} (hX : LX g X b L xs) {x m o tp bt te tk nr pr rd mt cn sn : Nat} {i : Int32} {K len : Nat → Nat} {I : Nat → Nat → Int32} {J : Nat → Nat → Int64} {R : Nat → Nat → Option Nat} (hI : LI x m o tp bt te tk nr pr rd mt K len I R) (hi : 0 ≤ i.toInt) (hiL : i.toInt + 6 ≤ L) (hcn : cn + 18 ≤ 601024) (hsn : sn + 231 ≤ 7293034) (kk : ∀ K' len' I' J' R', LI x m o tp bt te tk nr pr rd mt K' len' I' R' → P g X 7 1253 [(0, .ref b), (1, .ref x), (2, .ref m), (3, .ref o), (4, .int i)] [] (cn + 18) (sn + 231) (K', len', I', J', R')) : P g X 7 1027 [(0, .ref b), (1, .ref x), (2, .ref m), (3, .ref o), (4, .int i)] [] cn sn (K, len, I, J, R) := by
  obtain ⟨hC, hcs, hl, hXs, hb, hbA, hL⟩ := hX
  obtain ⟨hs, la, ⟨h, s, lk, ls, lh, lr, lc⟩, lb, lv⟩ := id hI
  obtain ⟨hu, DA, rwd, scd, lcm⟩ := id lc
  obtain ⟨sd1, sd2, sd3, sd4, sd5, sd7, sd8, sd9⟩ := id scd
  obtain ⟨kx, km, ⟨ko, no⟩, ⟨htp, ktp⟩, ⟨hbb, kbt, nbt⟩, ⟨hte, kte⟩, ⟨htk, ktk⟩, hbt, ⟨hnr, knr, lnr⟩, ⟨hpr, kpr, lpr⟩, ⟨hrd, krd⟩, ⟨hmt, kmt, nmt⟩⟩ := id la
  obtain ⟨⟨hh, kh⟩, ⟨hs2, ks⟩, ⟨hlk2, klk⟩, ⟨hls, kls⟩, nhs, nls⟩ := id lh
  obtain ⟨lv1, lv2, lv3, lv4⟩ := id lv
  obtain ⟨lw, hlw, klw, llw⟩ := hs.row kx 4 41 60 (by decide) (by decide)
  obtain ⟨kn, hkn, kkn, lkn⟩ := hs.row kx 6 43 6 (by decide) (by decide)
  obtain ⟨tl, htl, ktl, ltl⟩ := hs.row kx 7 41 60 (by decide) (by decide)
  obtain ⟨lrw, hlrw, klrw, llrw⟩ := hs.row km 15 85 60 (by decide) (by decide)
  have nlt : lw ≠ tl := hu.ne hlw htl (by rw [klw]; decide) (Or.inr (by decide))
  refine r_aload_n hC dL_law_1027 1 rfl ?_
  refine r_aload_n hC dL_law_1028 0 rfl ?_
  refine r_iload hC dL_law_1029 4 rfl ?_
  refine r_iconst hC (v := (1)) dL_law_1031 (by decide) (by decide) (fun x1_ e1 t1 => ?_)
  refine r_iadd hC dL_law_1032 (fun x2_ e2 => ?_)
  try have t2 : x2_.toInt = i.toInt + x1_.toInt := by rw [e2]; exact ti_add (by omega) (by omega)
  refine r_sld hC hXs hb hbA (by omega) (by omega) dL_law_1033 (fun x3_ e3 => ?_)
  refine r_aload_n hC dL_law_1034 0 rfl ?_
  refine r_iload hC dL_law_1035 4 rfl ?_
  refine r_iconst hC (v := (2)) dL_law_1037 (by decide) (by decide) (fun x4_ e4 t4 => ?_)
  refine r_iadd hC dL_law_1038 (fun x5_ e5 => ?_)
  try have t5 : x5_.toInt = i.toInt + x4_.toInt := by rw [e5]; exact ti_add (by omega) (by omega)
  refine r_sld hC hXs hb hbA (by omega) (by omega) dL_law_1039 (fun x6_ e6 => ?_)
  refine r_callV hC (As := [.int x3_, .int x6_]) (rest := []) (ci := 8) (c_X8_dead g (xL X) K len I J R hs x kx x3_ x6_) mT_4_127 mT_1_1 mT_4_124 mT_4_125 mT_4_126 okX8_dead ⟨by decide, by decide⟩ rfl (by show kO (K x) = _; rw [kx]; rfl) rfl rfl (Nat.le_of_ble_eq_true rfl) ⟨by show cn + 0 ≤ 601024; omega, by show sn + 0 ≤ 7293034; omega⟩ dL_law_1040 (aI1 (F := fun st M => P g X 7 1043 [(0, .ref b), (1, .ref x), (2, .ref m), (3, .ref o), (4, .int i)] st _ _ M) (M := (K, len, I, J, R)) fun x7_ I7 h7 => ?_)
  obtain ⟨hs7, hf7, k7_0⟩ := h7
  show P g X 7 1043 [(0, .ref b), (1, .ref x), (2, .ref m), (3, .ref o), (4, .int i)] [.int x7_] cn sn (K, len, I7, J, R)
  refine r_pop hC dL_law_1043 rfl ?_
  refine r_aload_n hC dL_law_1044 2 rfl ?_
  refine r_aload_n hC dL_law_1045 0 rfl ?_
  refine r_iload hC dL_law_1046 4 rfl ?_
  refine r_iconst hC (v := (1)) dL_law_1048 (by decide) (by decide) (fun x8_ e8 t8 => ?_)
  refine r_iadd hC dL_law_1049 (fun x9_ e9 => ?_)
  try have t9 : x9_.toInt = i.toInt + x8_.toInt := by rw [e9]; exact ti_add (by omega) (by omega)
  refine r_sld hC hXs hb hbA (by omega) (by omega) dL_law_1050 (fun x10_ e10 => ?_)
  obtain rfl : x3_ = x10_ := sld_eq e3 e10 (by omega)
  refine r_aload_n hC dL_law_1051 0 rfl ?_
  refine r_iload hC dL_law_1052 4 rfl ?_
  refine r_iconst hC (v := (2)) dL_law_1054 (by decide) (by decide) (fun x11_ e11 t11 => ?_)
  refine r_iadd hC dL_law_1055 (fun x12_ e12 => ?_)
  try have t12 : x12_.toInt = i.toInt + x11_.toInt := by rw [e12]; exact ti_add (by omega) (by omega)
  refine r_sld hC hXs hb hbA (by omega) (by omega) dL_law_1056 (fun x13_ e13 => ?_)
  obtain rfl : x6_ = x13_ := sld_eq e6 e13 (by omega)
  refine r_callV hC (As := [.int x3_, .int x6_]) (rest := []) (ci := 10) (c_X10_dead g (xL X) K len I7 J R hs7 m km x3_ x6_) mT_7_59 mT_1_10 mT_7_56 mT_7_57 mT_7_58 okX10_dead ⟨by decide, by decide⟩ rfl (by show kO (K m) = _; rw [km]; rfl) rfl rfl (Nat.le_of_ble_eq_true rfl) ⟨by show cn + 0 ≤ 601024; omega, by show sn + 0 ≤ 7293034; omega⟩ dL_law_1057 (aI1 (F := fun st M => P g X 7 1060 [(0, .ref b), (1, .ref x), (2, .ref m), (3, .ref o), (4, .int i)] st _ _ M) (M := (K, len, I7, J, R)) fun x14_ I14 h14 => ?_)
  obtain ⟨hs14, hf14, k14_0⟩ := h14
  show P g X 7 1060 [(0, .ref b), (1, .ref x), (2, .ref m), (3, .ref o), (4, .int i)] [.int x14_] cn sn (K, len, I14, J, R)
  refine r_pop hC dL_law_1060 rfl ?_
  refine r_goto hC (tgt := 1253) dL_law_1061 (by decide) ?_
  refine r_sub [0, 1, 2, 3, 4] rfl ?_
  refine r_widen hC (k2 := cn + 18) (n2 := sn + 231) (by omega) (by omega) ?_
  exact kk K len I14 J R (hI.ref hs14 hf7 hf14 rfl rfl rfl rfl rfl rfl rfl k7_0 k14_0)
set_option maxHeartbeats 4000000 in
set_option maxRecDepth 100000 in
theorem law_28 {g : GG} {X : XT} {b L : Nat} {xs : Nat → Int32} (hX : LX g X b L xs) {x m o tp bt te tk nr pr rd mt cn sn : Nat} {i : Int32} {K len : Nat → Nat} {I : Nat → Nat → Int32} {J : Nat → Nat → Int64} {R : Nat → Nat → Option Nat} (hI : LI x m o tp bt te tk nr pr rd mt K len I R) (hi : 0 ≤ i.toInt) (hiL : i.toInt + 6 ≤ L) (hcn : cn + 18 ≤ 601024) (hsn : sn + 231 ≤ 7293034) (kk : ∀ K' len' I' J' R', LI x m o tp bt te tk nr pr rd mt K' len' I' R' → P g X 7 1253 [(0, .ref b), (1, .ref x), (2, .ref m), (3, .ref o), (4, .int i)] [] (cn + 18) (sn + 231) (K', len', I', J', R')) : P g X 7 1064 [(0, .ref b), (1, .ref x), (2, .ref m), (3, .ref o), (4, .int i)] [] cn sn (K, len, I, J, R) := by
  obtain ⟨hC, hcs, hl, hXs, hb, hbA, hL⟩ := hX
  obtain ⟨hs, la, ⟨h, s, lk, ls, lh, lr, lc⟩, lb, lv⟩ := id hI
  obtain ⟨hu, DA, rwd, scd, lcm⟩ := id lc
  obtain ⟨sd1, sd2, sd3, sd4, sd5, sd7, sd8, sd9⟩ := id scd
  obtain ⟨kx, km, ⟨ko, no⟩, ⟨htp, ktp⟩, ⟨hbb, kbt, nbt⟩, ⟨hte, kte⟩, ⟨htk, ktk⟩, hbt, ⟨hnr, knr, lnr⟩, ⟨hpr, kpr, lpr⟩, ⟨hrd, krd⟩, ⟨hmt, kmt, nmt⟩⟩ := id la
  obtain ⟨⟨hh, kh⟩, ⟨hs2, ks⟩, ⟨hlk2, klk⟩, ⟨hls, kls⟩, nhs, nls⟩ := id lh
  obtain ⟨lv1, lv2, lv3, lv4⟩ := id lv
  obtain ⟨lw, hlw, klw, llw⟩ := hs.row kx 4 41 60 (by decide) (by decide)
  obtain ⟨kn, hkn, kkn, lkn⟩ := hs.row kx 6 43 6 (by decide) (by decide)
  obtain ⟨tl, htl, ktl, ltl⟩ := hs.row kx 7 41 60 (by decide) (by decide)
  obtain ⟨lrw, hlrw, klrw, llrw⟩ := hs.row km 15 85 60 (by decide) (by decide)
  have nlt : lw ≠ tl := hu.ne hlw htl (by rw [klw]; decide) (Or.inr (by decide))
  refine r_aload_n hC dL_law_1064 1 rfl ?_
  refine r_aload_n hC dL_law_1065 0 rfl ?_
  refine r_iload hC dL_law_1066 4 rfl ?_
  refine r_iconst hC (v := (1)) dL_law_1068 (by decide) (by decide) (fun x1_ e1 t1 => ?_)
  refine r_iadd hC dL_law_1069 (fun x2_ e2 => ?_)
  try have t2 : x2_.toInt = i.toInt + x1_.toInt := by rw [e2]; exact ti_add (by omega) (by omega)
  refine r_sld hC hXs hb hbA (by omega) (by omega) dL_law_1070 (fun x3_ e3 => ?_)
  refine r_aload_n hC dL_law_1071 0 rfl ?_
  refine r_iload hC dL_law_1072 4 rfl ?_
  refine r_iconst hC (v := (2)) dL_law_1074 (by decide) (by decide) (fun x4_ e4 t4 => ?_)
  refine r_iadd hC dL_law_1075 (fun x5_ e5 => ?_)
  try have t5 : x5_.toInt = i.toInt + x4_.toInt := by rw [e5]; exact ti_add (by omega) (by omega)
  refine r_sld hC hXs hb hbA (by omega) (by omega) dL_law_1076 (fun x6_ e6 => ?_)
  refine r_callV hC (As := [.int x3_, .int x6_]) (rest := []) (ci := 8) (c_X8_tell g (xL X) K len I J R hs x kx x3_ x6_) mT_4_131 mT_1_1 mT_4_128 mT_4_129 mT_4_130 okX8_tell ⟨by decide, by decide⟩ rfl (by show kO (K x) = _; rw [kx]; rfl) rfl rfl (Nat.le_of_ble_eq_true rfl) ⟨by show cn + 0 ≤ 601024; omega, by show sn + 0 ≤ 7293034; omega⟩ dL_law_1077 (aI1 (F := fun st M => P g X 7 1080 [(0, .ref b), (1, .ref x), (2, .ref m), (3, .ref o), (4, .int i)] st _ _ M) (M := (K, len, I, J, R)) fun x7_ I7 h7 => ?_)
  obtain ⟨hs7, hf7, k7_0⟩ := h7
  show P g X 7 1080 [(0, .ref b), (1, .ref x), (2, .ref m), (3, .ref o), (4, .int i)] [.int x7_] cn sn (K, len, I7, J, R)
  refine r_pop hC dL_law_1080 rfl ?_
  refine r_aload_n hC dL_law_1081 2 rfl ?_
  refine r_aload_n hC dL_law_1082 0 rfl ?_
  refine r_iload hC dL_law_1083 4 rfl ?_
  refine r_iconst hC (v := (1)) dL_law_1085 (by decide) (by decide) (fun x8_ e8 t8 => ?_)
  refine r_iadd hC dL_law_1086 (fun x9_ e9 => ?_)
  try have t9 : x9_.toInt = i.toInt + x8_.toInt := by rw [e9]; exact ti_add (by omega) (by omega)
  refine r_sld hC hXs hb hbA (by omega) (by omega) dL_law_1087 (fun x10_ e10 => ?_)
  obtain rfl : x3_ = x10_ := sld_eq e3 e10 (by omega)
  refine r_aload_n hC dL_law_1088 0 rfl ?_
  refine r_iload hC dL_law_1089 4 rfl ?_
  refine r_iconst hC (v := (2)) dL_law_1091 (by decide) (by decide) (fun x11_ e11 t11 => ?_)
  refine r_iadd hC dL_law_1092 (fun x12_ e12 => ?_)
  try have t12 : x12_.toInt = i.toInt + x11_.toInt := by rw [e12]; exact ti_add (by omega) (by omega)
  refine r_sld hC hXs hb hbA (by omega) (by omega) dL_law_1093 (fun x13_ e13 => ?_)
  obtain rfl : x6_ = x13_ := sld_eq e6 e13 (by omega)
  refine r_callV hC (As := [.int x3_, .int x6_]) (rest := []) (ci := 10) (c_X10_tell g (xL X) K len I7 J R hs7 m km x3_ x6_) mT_7_63 mT_1_10 mT_7_60 mT_7_61 mT_7_62 okX10_tell ⟨by decide, by decide⟩ rfl (by show kO (K m) = _; rw [km]; rfl) rfl rfl (Nat.le_of_ble_eq_true rfl) ⟨by show cn + 0 ≤ 601024; omega, by show sn + 0 ≤ 7293034; omega⟩ dL_law_1094 (aI1 (F := fun st M => P g X 7 1097 [(0, .ref b), (1, .ref x), (2, .ref m), (3, .ref o), (4, .int i)] st _ _ M) (M := (K, len, I7, J, R)) fun x14_ I14 h14 => ?_)
  obtain ⟨hs14, hf14, k14_0⟩ := h14
  show P g X 7 1097 [(0, .ref b), (1, .ref x), (2, .ref m), (3, .ref o), (4, .int i)] [.int x14_] cn sn (K, len, I14, J, R)
  refine r_pop hC dL_law_1097 rfl ?_
  refine r_goto hC (tgt := 1253) dL_law_1098 (by decide) ?_
  refine r_sub [0, 1, 2, 3, 4] rfl ?_
  refine r_widen hC (k2 := cn + 18) (n2 := sn + 231) (by omega) (by omega) ?_
  exact kk K len I14 J R (hI.ref hs14 hf7 hf14 rfl rfl rfl rfl rfl rfl rfl k7_0 k14_0)
set_option maxHeartbeats 4000000 in
set_option maxRecDepth 100000 in
theorem law_29 {g : GG} {X : XT} {b L : Nat} {xs : Nat → Int32} (hX : LX g X b L xs) {x m o tp bt te tk nr pr rd mt cn sn : Nat} {i : Int32} {K len : Nat → Nat} {I : Nat → Nat → Int32} {J : Nat → Nat → Int64} {R : Nat → Nat → Option Nat} (hI : LI x m o tp bt te tk nr pr rd mt K len I R) (hi : 0 ≤ i.toInt) (hiL : i.toInt + 6 ≤ L) (hcn : cn + 18 ≤ 601024) (hsn : sn + 231 ≤ 7293034) (kk : ∀ K' len' I' J' R', LI x m o tp bt te tk nr pr rd mt K' len' I' R' → P g X 7 1253 [(0, .ref b), (1, .ref x), (2, .ref m), (3, .ref o), (4, .int i)] [] (cn + 18) (sn + 231) (K', len', I', J', R')) : P g X 7 1101 [(0, .ref b), (1, .ref x), (2, .ref m), (3, .ref o), (4, .int i)] [] cn sn (K, len, I, J, R) := by
  obtain ⟨hC, hcs, hl, hXs, hb, hbA, hL⟩ := hX
  obtain ⟨hs, la, ⟨h, s, lk, ls, lh, lr, lc⟩, lb, lv⟩ := id hI
  obtain ⟨hu, DA, rwd, scd, lcm⟩ := id lc
  obtain ⟨sd1, sd2, sd3, sd4, sd5, sd7, sd8, sd9⟩ := id scd
  obtain ⟨kx, km, ⟨ko, no⟩, ⟨htp, ktp⟩, ⟨hbb, kbt, nbt⟩, ⟨hte, kte⟩, ⟨htk, ktk⟩, hbt, ⟨hnr, knr, lnr⟩, ⟨hpr, kpr, lpr⟩, ⟨hrd, krd⟩, ⟨hmt, kmt, nmt⟩⟩ := id la
  obtain ⟨⟨hh, kh⟩, ⟨hs2, ks⟩, ⟨hlk2, klk⟩, ⟨hls, kls⟩, nhs, nls⟩ := id lh
  obtain ⟨lv1, lv2, lv3, lv4⟩ := id lv
  obtain ⟨lw, hlw, klw, llw⟩ := hs.row kx 4 41 60 (by decide) (by decide)
  obtain ⟨kn, hkn, kkn, lkn⟩ := hs.row kx 6 43 6 (by decide) (by decide)
  obtain ⟨tl, htl, ktl, ltl⟩ := hs.row kx 7 41 60 (by decide) (by decide)
  obtain ⟨lrw, hlrw, klrw, llrw⟩ := hs.row km 15 85 60 (by decide) (by decide)
  have nlt : lw ≠ tl := hu.ne hlw htl (by rw [klw]; decide) (Or.inr (by decide))
  refine r_aload_n hC dL_law_1101 1 rfl ?_
  refine r_aload_n hC dL_law_1102 0 rfl ?_
  refine r_iload hC dL_law_1103 4 rfl ?_
  refine r_iconst hC (v := (1)) dL_law_1105 (by decide) (by decide) (fun x1_ e1 t1 => ?_)
  refine r_iadd hC dL_law_1106 (fun x2_ e2 => ?_)
  try have t2 : x2_.toInt = i.toInt + x1_.toInt := by rw [e2]; exact ti_add (by omega) (by omega)
  refine r_sld hC hXs hb hbA (by omega) (by omega) dL_law_1107 (fun x3_ e3 => ?_)
  refine r_aload_n hC dL_law_1108 0 rfl ?_
  refine r_iload hC dL_law_1109 4 rfl ?_
  refine r_iconst hC (v := (2)) dL_law_1111 (by decide) (by decide) (fun x4_ e4 t4 => ?_)
  refine r_iadd hC dL_law_1112 (fun x5_ e5 => ?_)
  try have t5 : x5_.toInt = i.toInt + x4_.toInt := by rw [e5]; exact ti_add (by omega) (by omega)
  refine r_sld hC hXs hb hbA (by omega) (by omega) dL_law_1113 (fun x6_ e6 => ?_)
  refine r_aload_n hC dL_law_1114 0 rfl ?_
  refine r_iload hC dL_law_1115 4 rfl ?_
  refine r_iconst hC (v := (3)) dL_law_1117 (by decide) (by decide) (fun x7_ e7 t7 => ?_)
  refine r_iadd hC dL_law_1118 (fun x8_ e8 => ?_)
  try have t8 : x8_.toInt = i.toInt + x7_.toInt := by rw [e8]; exact ti_add (by omega) (by omega)
  refine r_sld hC hXs hb hbA (by omega) (by omega) dL_law_1119 (fun x9_ e9 => ?_)
  refine r_callV hC (As := [.int x3_, .int x6_, .int x9_]) (rest := []) (ci := 8) (c_X8_part g (xL X) K len I J R hs x kx x3_ x6_ x9_) mT_4_137 mT_1_1 mT_4_134 mT_4_135 mT_4_136 okX8_part ⟨by decide, by decide⟩ rfl (by show kO (K x) = _; rw [kx]; rfl) rfl rfl (Nat.le_of_ble_eq_true rfl) ⟨by show cn + 0 ≤ 601024; omega, by show sn + 0 ≤ 7293034; omega⟩ dL_law_1120 (aI1 (F := fun st M => P g X 7 1123 [(0, .ref b), (1, .ref x), (2, .ref m), (3, .ref o), (4, .int i)] st _ _ M) (M := (K, len, I, J, R)) fun x10_ I10 h10 => ?_)
  obtain ⟨hs10, hf10, k10_0⟩ := h10
  show P g X 7 1123 [(0, .ref b), (1, .ref x), (2, .ref m), (3, .ref o), (4, .int i)] [.int x10_] cn sn (K, len, I10, J, R)
  refine r_pop hC dL_law_1123 rfl ?_
  refine r_aload_n hC dL_law_1124 2 rfl ?_
  refine r_aload_n hC dL_law_1125 0 rfl ?_
  refine r_iload hC dL_law_1126 4 rfl ?_
  refine r_iconst hC (v := (1)) dL_law_1128 (by decide) (by decide) (fun x11_ e11 t11 => ?_)
  refine r_iadd hC dL_law_1129 (fun x12_ e12 => ?_)
  try have t12 : x12_.toInt = i.toInt + x11_.toInt := by rw [e12]; exact ti_add (by omega) (by omega)
  refine r_sld hC hXs hb hbA (by omega) (by omega) dL_law_1130 (fun x13_ e13 => ?_)
  obtain rfl : x3_ = x13_ := sld_eq e3 e13 (by omega)
  refine r_aload_n hC dL_law_1131 0 rfl ?_
  refine r_iload hC dL_law_1132 4 rfl ?_
  refine r_iconst hC (v := (2)) dL_law_1134 (by decide) (by decide) (fun x14_ e14 t14 => ?_)
  refine r_iadd hC dL_law_1135 (fun x15_ e15 => ?_)
  try have t15 : x15_.toInt = i.toInt + x14_.toInt := by rw [e15]; exact ti_add (by omega) (by omega)
  refine r_sld hC hXs hb hbA (by omega) (by omega) dL_law_1136 (fun x16_ e16 => ?_)
  obtain rfl : x6_ = x16_ := sld_eq e6 e16 (by omega)
  refine r_aload_n hC dL_law_1137 0 rfl ?_
  refine r_iload hC dL_law_1138 4 rfl ?_
  refine r_iconst hC (v := (3)) dL_law_1140 (by decide) (by decide) (fun x17_ e17 t17 => ?_)
  refine r_iadd hC dL_law_1141 (fun x18_ e18 => ?_)
  try have t18 : x18_.toInt = i.toInt + x17_.toInt := by rw [e18]; exact ti_add (by omega) (by omega)
  refine r_sld hC hXs hb hbA (by omega) (by omega) dL_law_1142 (fun x19_ e19 => ?_)
  obtain rfl : x9_ = x19_ := sld_eq e9 e19 (by omega)
  refine r_callV hC (As := [.int x3_, .int x6_, .int x9_]) (rest := []) (ci := 10) (c_X10_part g (xL X) K len I10 J R hs10 m km x3_ x6_ x9_) mT_7_68 mT_1_10 mT_7_65 mT_7_66 mT_7_67 okX10_part ⟨by decide, by decide⟩ rfl (by show kO (K m) = _; rw [km]; rfl) rfl rfl (Nat.le_of_ble_eq_true rfl) ⟨by show cn + 0 ≤ 601024; omega, by show sn + 0 ≤ 7293034; omega⟩ dL_law_1143 (aI1 (F := fun st M => P g X 7 1146 [(0, .ref b), (1, .ref x), (2, .ref m), (3, .ref o), (4, .int i)] st _ _ M) (M := (K, len, I10, J, R)) fun x20_ I20 h20 => ?_)
  obtain ⟨hs20, hf20, k20_0⟩ := h20
  show P g X 7 1146 [(0, .ref b), (1, .ref x), (2, .ref m), (3, .ref o), (4, .int i)] [.int x20_] cn sn (K, len, I20, J, R)
  refine r_pop hC dL_law_1146 rfl ?_
  refine r_goto hC (tgt := 1253) dL_law_1147 (by decide) ?_
  refine r_sub [0, 1, 2, 3, 4] rfl ?_
  refine r_widen hC (k2 := cn + 18) (n2 := sn + 231) (by omega) (by omega) ?_
  exact kk K len I20 J R (hI.ref hs20 hf10 hf20 rfl rfl rfl rfl rfl rfl rfl k10_0 k20_0)
set_option maxHeartbeats 4000000 in
set_option maxRecDepth 100000 in
theorem law_30 {g : GG} {X : XT} {b L : Nat} {xs : Nat → Int32} (hX : LX g X b L xs) {x m o tp bt te tk nr pr rd mt cn sn : Nat} {i : Int32} {K len : Nat → Nat} {I : Nat → Nat → Int32} {J : Nat → Nat → Int64} {R : Nat → Nat → Option Nat} (hI : LI x m o tp bt te tk nr pr rd mt K len I R) (hi : 0 ≤ i.toInt) (hiL : i.toInt + 6 ≤ L) (hcn : cn + 18 ≤ 601024) (hsn : sn + 231 ≤ 7293034) (kk : ∀ K' len' I' J' R', LI x m o tp bt te tk nr pr rd mt K' len' I' R' → P g X 7 1253 [(0, .ref b), (1, .ref x), (2, .ref m), (3, .ref o), (4, .int i)] [] (cn + 18) (sn + 231) (K', len', I', J', R')) : P g X 7 1150 [(0, .ref b), (1, .ref x), (2, .ref m), (3, .ref o), (4, .int i)] [] cn sn (K, len, I, J, R) := by
  obtain ⟨hC, hcs, hl, hXs, hb, hbA, hL⟩ := hX
  obtain ⟨hs, la, ⟨h, s, lk, ls, lh, lr, lc⟩, lb, lv⟩ := id hI
  obtain ⟨hu, DA, rwd, scd, lcm⟩ := id lc
  obtain ⟨sd1, sd2, sd3, sd4, sd5, sd7, sd8, sd9⟩ := id scd
  obtain ⟨kx, km, ⟨ko, no⟩, ⟨htp, ktp⟩, ⟨hbb, kbt, nbt⟩, ⟨hte, kte⟩, ⟨htk, ktk⟩, hbt, ⟨hnr, knr, lnr⟩, ⟨hpr, kpr, lpr⟩, ⟨hrd, krd⟩, ⟨hmt, kmt, nmt⟩⟩ := id la
  obtain ⟨⟨hh, kh⟩, ⟨hs2, ks⟩, ⟨hlk2, klk⟩, ⟨hls, kls⟩, nhs, nls⟩ := id lh
  obtain ⟨lv1, lv2, lv3, lv4⟩ := id lv
  obtain ⟨lw, hlw, klw, llw⟩ := hs.row kx 4 41 60 (by decide) (by decide)
  obtain ⟨kn, hkn, kkn, lkn⟩ := hs.row kx 6 43 6 (by decide) (by decide)
  obtain ⟨tl, htl, ktl, ltl⟩ := hs.row kx 7 41 60 (by decide) (by decide)
  obtain ⟨lrw, hlrw, klrw, llrw⟩ := hs.row km 15 85 60 (by decide) (by decide)
  have nlt : lw ≠ tl := hu.ne hlw htl (by rw [klw]; decide) (Or.inr (by decide))
  refine r_aload_n hC dL_law_1150 1 rfl ?_
  refine r_aload_n hC dL_law_1151 0 rfl ?_
  refine r_iload hC dL_law_1152 4 rfl ?_
  refine r_iconst hC (v := (1)) dL_law_1154 (by decide) (by decide) (fun x1_ e1 t1 => ?_)
  refine r_iadd hC dL_law_1155 (fun x2_ e2 => ?_)
  try have t2 : x2_.toInt = i.toInt + x1_.toInt := by rw [e2]; exact ti_add (by omega) (by omega)
  refine r_sld hC hXs hb hbA (by omega) (by omega) dL_law_1156 (fun x3_ e3 => ?_)
  refine r_callV hC (As := [.int x3_]) (rest := []) (ci := 8) (c_X8_knew g (xL X) K len I J R hs x kx x3_) mT_4_141 mT_1_1 mT_4_138 mT_4_139 mT_4_140 okX8_knew ⟨by decide, by decide⟩ rfl (by show kO (K x) = _; rw [kx]; rfl) rfl rfl (Nat.le_of_ble_eq_true rfl) ⟨by show cn + 0 ≤ 601024; omega, by show sn + 0 ≤ 7293034; omega⟩ dL_law_1157 (aI1 (F := fun st M => P g X 7 1160 [(0, .ref b), (1, .ref x), (2, .ref m), (3, .ref o), (4, .int i)] st _ _ M) (M := (K, len, I, J, R)) fun x4_ I4 h4 => ?_)
  obtain ⟨hs4, hf4, k4_0⟩ := h4
  show P g X 7 1160 [(0, .ref b), (1, .ref x), (2, .ref m), (3, .ref o), (4, .int i)] [.int x4_] cn sn (K, len, I4, J, R)
  refine r_pop hC dL_law_1160 rfl ?_
  refine r_aload_n hC dL_law_1161 2 rfl ?_
  refine r_aload_n hC dL_law_1162 0 rfl ?_
  refine r_iload hC dL_law_1163 4 rfl ?_
  refine r_iconst hC (v := (1)) dL_law_1165 (by decide) (by decide) (fun x5_ e5 t5 => ?_)
  refine r_iadd hC dL_law_1166 (fun x6_ e6 => ?_)
  try have t6 : x6_.toInt = i.toInt + x5_.toInt := by rw [e6]; exact ti_add (by omega) (by omega)
  refine r_sld hC hXs hb hbA (by omega) (by omega) dL_law_1167 (fun x7_ e7 => ?_)
  obtain rfl : x3_ = x7_ := sld_eq e3 e7 (by omega)
  refine r_callV hC (As := [.int x3_]) (rest := []) (ci := 10) (c_X10_knew g (xL X) K len I4 J R hs4 m km x3_) mT_7_72 mT_1_10 mT_7_69 mT_7_70 mT_7_71 okX10_knew ⟨by decide, by decide⟩ rfl (by show kO (K m) = _; rw [km]; rfl) rfl rfl (Nat.le_of_ble_eq_true rfl) ⟨by show cn + 0 ≤ 601024; omega, by show sn + 0 ≤ 7293034; omega⟩ dL_law_1168 (aI1 (F := fun st M => P g X 7 1171 [(0, .ref b), (1, .ref x), (2, .ref m), (3, .ref o), (4, .int i)] st _ _ M) (M := (K, len, I4, J, R)) fun x8_ I8 h8 => ?_)
  obtain ⟨hs8, hf8, k8_0⟩ := h8
  show P g X 7 1171 [(0, .ref b), (1, .ref x), (2, .ref m), (3, .ref o), (4, .int i)] [.int x8_] cn sn (K, len, I8, J, R)
  refine r_pop hC dL_law_1171 rfl ?_
  refine r_goto hC (tgt := 1253) dL_law_1172 (by decide) ?_
  refine r_sub [0, 1, 2, 3, 4] rfl ?_
  refine r_widen hC (k2 := cn + 18) (n2 := sn + 231) (by omega) (by omega) ?_
  exact kk K len I8 J R (hI.ref hs8 hf4 hf8 rfl rfl rfl rfl rfl rfl rfl k4_0 k8_0)
set_option maxHeartbeats 4000000 in
set_option maxRecDepth 100000 in
theorem law_31 {g : GG} {X : XT} {b L : Nat} {xs : Nat → Int32} (hX : LX g X b L xs) {x m o tp bt te tk nr pr rd mt cn sn : Nat} {i : Int32} {K len : Nat → Nat} {I : Nat → Nat → Int32} {J : Nat → Nat → Int64} {R : Nat → Nat → Option Nat} (hI : LI x m o tp bt te tk nr pr rd mt K len I R) (hi : 0 ≤ i.toInt) (hiL : i.toInt + 6 ≤ L) (hcn : cn + 18 ≤ 601024) (hsn : sn + 231 ≤ 7293034) (kk : ∀ K' len' I' J' R', LI x m o tp bt te tk nr pr rd mt K' len' I' R' → P g X 7 1253 [(0, .ref b), (1, .ref x), (2, .ref m), (3, .ref o), (4, .int i)] [] (cn + 18) (sn + 231) (K', len', I', J', R')) : P g X 7 1175 [(0, .ref b), (1, .ref x), (2, .ref m), (3, .ref o), (4, .int i)] [] cn sn (K, len, I, J, R) := by
  obtain ⟨hC, hcs, hl, hXs, hb, hbA, hL⟩ := hX
  obtain ⟨hs, la, ⟨h, s, lk, ls, lh, lr, lc⟩, lb, lv⟩ := id hI
  obtain ⟨hu, DA, rwd, scd, lcm⟩ := id lc
  obtain ⟨sd1, sd2, sd3, sd4, sd5, sd7, sd8, sd9⟩ := id scd
  obtain ⟨kx, km, ⟨ko, no⟩, ⟨htp, ktp⟩, ⟨hbb, kbt, nbt⟩, ⟨hte, kte⟩, ⟨htk, ktk⟩, hbt, ⟨hnr, knr, lnr⟩, ⟨hpr, kpr, lpr⟩, ⟨hrd, krd⟩, ⟨hmt, kmt, nmt⟩⟩ := id la
  obtain ⟨⟨hh, kh⟩, ⟨hs2, ks⟩, ⟨hlk2, klk⟩, ⟨hls, kls⟩, nhs, nls⟩ := id lh
  obtain ⟨lv1, lv2, lv3, lv4⟩ := id lv
  obtain ⟨lw, hlw, klw, llw⟩ := hs.row kx 4 41 60 (by decide) (by decide)
  obtain ⟨kn, hkn, kkn, lkn⟩ := hs.row kx 6 43 6 (by decide) (by decide)
  obtain ⟨tl, htl, ktl, ltl⟩ := hs.row kx 7 41 60 (by decide) (by decide)
  obtain ⟨lrw, hlrw, klrw, llrw⟩ := hs.row km 15 85 60 (by decide) (by decide)
  have nlt : lw ≠ tl := hu.ne hlw htl (by rw [klw]; decide) (Or.inr (by decide))
  refine r_aload_n hC dL_law_1175 1 rfl ?_
  refine r_aload_n hC dL_law_1176 0 rfl ?_
  refine r_iload hC dL_law_1177 4 rfl ?_
  refine r_iconst hC (v := (1)) dL_law_1179 (by decide) (by decide) (fun x1_ e1 t1 => ?_)
  refine r_iadd hC dL_law_1180 (fun x2_ e2 => ?_)
  try have t2 : x2_.toInt = i.toInt + x1_.toInt := by rw [e2]; exact ti_add (by omega) (by omega)
  refine r_sld hC hXs hb hbA (by omega) (by omega) dL_law_1181 (fun x3_ e3 => ?_)
  refine r_aload_n hC dL_law_1182 0 rfl ?_
  refine r_iload hC dL_law_1183 4 rfl ?_
  refine r_iconst hC (v := (2)) dL_law_1185 (by decide) (by decide) (fun x4_ e4 t4 => ?_)
  refine r_iadd hC dL_law_1186 (fun x5_ e5 => ?_)
  try have t5 : x5_.toInt = i.toInt + x4_.toInt := by rw [e5]; exact ti_add (by omega) (by omega)
  refine r_sld hC hXs hb hbA (by omega) (by omega) dL_law_1187 (fun x6_ e6 => ?_)
  refine r_aload_n hC dL_law_1188 3 rfl ?_
  refine r_callSW hC hcs (As := [.ref x, .int x3_, .int x6_, .ref o]) (rest := []) (c_L_led g (xL X) hl K len I J R hs x kx x3_ x6_ o ko no) mW_led mT_1_0 mT_4_154 mT_4_155 okL_led ⟨by decide, by decide⟩ rfl rfl (Nat.le_of_ble_eq_true rfl) ⟨by show cn + 1 ≤ 601024; omega, by show sn + 6 ≤ 7293034; omega⟩ dL_law_1189 (aI2 (F := fun st M => P g X 7 1192 [(0, .ref b), (1, .ref x), (2, .ref m), (3, .ref o), (4, .int i)] st _ _ M) (M := (K, len, I, J, R)) fun x7_ I7 J7 h7 => ?_)
  obtain ⟨hs7, hf7, -⟩ := h7
  show P g X 7 1192 [(0, .ref b), (1, .ref x), (2, .ref m), (3, .ref o), (4, .int i)] [.int x7_] (cn + 1) (sn + 6) (K, len, I7, J7, R)
  refine r_istore hC (lv' := [(5, .int x7_), (0, .ref b), (1, .ref x), (2, .ref m), (3, .ref o), (4, .int i)]) dL_law_1192 (by decide) rfl ?_
  refine r_aload_n hC dL_law_1194 3 rfl ?_
  refine r_aload_n hC dL_law_1195 1 rfl ?_
  refine r_iload hC dL_law_1196 5 rfl ?_
  refine r_iconst hC (v := (1)) dL_law_1198 (by decide) (by decide) (fun x8_ e8 t8 => ?_)
  refine r_iadd hC dL_law_1199 (fun x9_ e9 => ?_)
  try have t9 : x9_.toInt = i.toInt + x8_.toInt := by rw [e9]; exact ti_add (by omega) (by omega)
  refine r_sld hC hXs hb hbA (by omega) (by omega) dL_law_1200 (fun x10_ e10 => ?_)
  obtain rfl : x3_ = x10_ := sld_eq e3 e10 (by omega)
  refine r_aload_n hC dL_law_1201 1 rfl ?_
  refine r_iload hC dL_law_1202 5 rfl ?_
  refine r_iconst hC (v := (2)) dL_law_1204 (by decide) (by decide) (fun x11_ e11 t11 => ?_)
  refine r_iadd hC dL_law_1205 (fun x12_ e12 => ?_)
  try have t12 : x12_.toInt = i.toInt + x11_.toInt := by rw [e12]; exact ti_add (by omega) (by omega)
  refine r_sld hC hXs hb hbA (by omega) (by omega) dL_law_1206 (fun x13_ e13 => ?_)
  obtain rfl : x6_ = x13_ := sld_eq e6 e13 (by omega)
  refine r_callV hC (As := [.int x3_, .int x6_]) (rest := []) (ci := 10) (c_X10_led g (xL X) K len I7 J7 R hs7 m km x3_ x6_) mT_7_76 mT_1_10 mT_7_73 mT_7_74 mT_7_75 okX10_led ⟨by decide, by decide⟩ rfl (by show kO (K m) = _; rw [km]; rfl) rfl rfl (Nat.le_of_ble_eq_true rfl) ⟨by show (cn + 1) + 0 ≤ 601024; omega, by show (sn + 6) + 0 ≤ 7293034; omega⟩ dL_law_1207 (aI1 (F := fun st M => P g X 7 1210 [(5, .int x7_), (0, .ref b), (1, .ref x), (2, .ref m), (3, .ref o), (4, .int i)] st _ _ M) (M := (K, len, I7, J7, R)) fun x14_ I14 h14 => ?_)
  obtain ⟨hs14, hf14⟩ := h14
  show P g X 7 1210 [(5, .int x7_), (0, .ref b), (1, .ref x), (2, .ref m), (3, .ref o), (4, .int i)] [.int x14_] (cn + 1) (sn + 6) (K, len, I14, J7, R)
  refine r_istore hC (lv' := [(6, .int x14_), (5, .int x7_), (0, .ref b), (1, .ref x), (2, .ref m), (3, .ref o), (4, .int i)]) dL_law_1210 (by decide) rfl ?_
  refine r_goto hC (tgt := 1253) dL_law_1212 (by decide) ?_
  refine r_sub [2, 3, 4, 5, 6] rfl ?_
  refine r_widen hC (k2 := cn + 18) (n2 := sn + 231) (by omega) (by omega) ?_
  exact kk K len I14 J7 R (hI.sil hs14 hf7 hf14 rfl rfl rfl rfl rfl rfl rfl rfl rfl rfl)
set_option maxHeartbeats 4000000 in
set_option maxRecDepth 100000 in
theorem law_32 {g : GG} {X : XT} {b L : Nat} {xs : Nat → Int32} (hX : LX g X b L xs) {x m o tp bt te tk nr pr rd mt cn sn : Nat} {i : Int32} {K len : Nat → Nat} {I : Nat → Nat → Int32} {J : Nat → Nat → Int64} {R : Nat → Nat → Option Nat} (hI : LI x m o tp bt te tk nr pr rd mt K len I R) (hi : 0 ≤ i.toInt) (hiL : i.toInt + 6 ≤ L) (hcn : cn + 18 ≤ 601024) (hsn : sn + 231 ≤ 7293034) (kk : ∀ K' len' I' J' R', LI x m o tp bt te tk nr pr rd mt K' len' I' R' → P g X 7 1253 [(0, .ref b), (1, .ref x), (2, .ref m), (3, .ref o), (4, .int i)] [] (cn + 18) (sn + 231) (K', len', I', J', R')) : P g X 7 1215 [(0, .ref b), (1, .ref x), (2, .ref m), (3, .ref o), (4, .int i)] [] cn sn (K, len, I, J, R) := by
  obtain ⟨hC, hcs, hl, hXs, hb, hbA, hL⟩ := hX
  obtain ⟨hs, la, ⟨h, s, lk, ls, lh, lr, lc⟩, lb, lv⟩ := id hI
  obtain ⟨hu, DA, rwd, scd, lcm⟩ := id lc
  obtain ⟨sd1, sd2, sd3, sd4, sd5, sd7, sd8, sd9⟩ := id scd
  obtain ⟨kx, km, ⟨ko, no⟩, ⟨htp, ktp⟩, ⟨hbb, kbt, nbt⟩, ⟨hte, kte⟩, ⟨htk, ktk⟩, hbt, ⟨hnr, knr, lnr⟩, ⟨hpr, kpr, lpr⟩, ⟨hrd, krd⟩, ⟨hmt, kmt, nmt⟩⟩ := id la
  obtain ⟨⟨hh, kh⟩, ⟨hs2, ks⟩, ⟨hlk2, klk⟩, ⟨hls, kls⟩, nhs, nls⟩ := id lh
  obtain ⟨lv1, lv2, lv3, lv4⟩ := id lv
  obtain ⟨lw, hlw, klw, llw⟩ := hs.row kx 4 41 60 (by decide) (by decide)
  obtain ⟨kn, hkn, kkn, lkn⟩ := hs.row kx 6 43 6 (by decide) (by decide)
  obtain ⟨tl, htl, ktl, ltl⟩ := hs.row kx 7 41 60 (by decide) (by decide)
  obtain ⟨lrw, hlrw, klrw, llrw⟩ := hs.row km 15 85 60 (by decide) (by decide)
  have nlt : lw ≠ tl := hu.ne hlw htl (by rw [klw]; decide) (Or.inr (by decide))
  refine r_aload_n hC dL_law_1215 1 rfl ?_
  refine r_aload_n hC dL_law_1216 0 rfl ?_
  refine r_iload hC dL_law_1217 4 rfl ?_
  refine r_iconst hC (v := (1)) dL_law_1219 (by decide) (by decide) (fun x1_ e1 t1 => ?_)
  refine r_iadd hC dL_law_1220 (fun x2_ e2 => ?_)
  try have t2 : x2_.toInt = i.toInt + x1_.toInt := by rw [e2]; exact ti_add (by omega) (by omega)
  refine r_sld hC hXs hb hbA (by omega) (by omega) dL_law_1221 (fun x3_ e3 => ?_)
  refine r_callV hC (As := [.int x3_]) (rest := []) (ci := 8) (f_X8_size g (xL X) K len I J R hs x kx x3_ h hh kh lk hlk2 klk rd hrd krd tp htp ktp) mT_4_149 mT_1_1 mT_4_146 mT_4_147 mT_4_148 okX8_size ⟨by decide, by decide⟩ rfl (by show kO (K x) = _; rw [kx]; rfl) rfl rfl (Nat.le_of_ble_eq_true rfl) ⟨by show cn + 0 ≤ 601024; omega, by show sn + 0 ≤ 7293034; omega⟩ dL_law_1222 (aI0 (F := fun st M => P g X 7 1225 [(0, .ref b), (1, .ref x), (2, .ref m), (3, .ref o), (4, .int i)] st _ _ M) (M := (K, len, I, J, R)) fun x4_  h4 => ?_)
  obtain ⟨k4_0, k4_1, k4_2, k4_3, k4_4, k4_5, k4_6, k4_7, k4_8, k4_9, k4_10⟩ := h4
  show P g X 7 1225 [(0, .ref b), (1, .ref x), (2, .ref m), (3, .ref o), (4, .int i)] [.int x4_] cn sn (K, len, I, J, R)
  refine r_pop hC dL_law_1225 rfl ?_
  refine r_aload_n hC dL_law_1226 2 rfl ?_
  refine r_aload_n hC dL_law_1227 0 rfl ?_
  refine r_iload hC dL_law_1228 4 rfl ?_
  refine r_iconst hC (v := (1)) dL_law_1230 (by decide) (by decide) (fun x5_ e5 t5 => ?_)
  refine r_iadd hC dL_law_1231 (fun x6_ e6 => ?_)
  try have t6 : x6_.toInt = i.toInt + x5_.toInt := by rw [e6]; exact ti_add (by omega) (by omega)
  refine r_sld hC hXs hb hbA (by omega) (by omega) dL_law_1232 (fun x7_ e7 => ?_)
  obtain rfl : x3_ = x7_ := sld_eq e3 e7 (by omega)
  refine r_callV hC (As := [.int x3_]) (rest := []) (ci := 10) (f_X10_size g (xL X) K len I J R hs m km x3_) mT_7_80 mT_1_10 mT_7_77 mT_7_78 mT_7_79 okX10_size ⟨by decide, by decide⟩ rfl (by show kO (K m) = _; rw [km]; rfl) rfl rfl (Nat.le_of_ble_eq_true rfl) ⟨by show cn + 0 ≤ 601024; omega, by show sn + 0 ≤ 7293034; omega⟩ dL_law_1233 (aI1 (F := fun st M => P g X 7 1236 [(0, .ref b), (1, .ref x), (2, .ref m), (3, .ref o), (4, .int i)] st _ _ M) (M := (K, len, I, J, R)) fun x8_ I8 h8 => ?_)
  obtain ⟨hs8, hf8, k8_0⟩ := h8
  show P g X 7 1236 [(0, .ref b), (1, .ref x), (2, .ref m), (3, .ref o), (4, .int i)] [.int x8_] cn sn (K, len, I8, J, R)
  have lbv := LBV.sil la lb lv (Fr.refl (l := [])) hf8 rfl rfl rfl rfl rfl rfl
  have t_h1 : (I8 h 1).toInt = (I h 1).toInt := congrArg Int32.toInt ((hf8.get kh rfl).trans ((Fr.refl (l := [])).get kh rfl))
  have t_h4 : (I8 h 4).toInt = (I h 4).toInt := congrArg Int32.toInt ((hf8.get kh rfl).trans ((Fr.refl (l := [])).get kh rfl))
  have t_h6 : (I8 h 6).toInt = (I h 6).toInt := congrArg Int32.toInt ((hf8.get kh rfl).trans ((Fr.refl (l := [])).get kh rfl))
  have t_h8 : (I8 h 8).toInt = (I h 8).toInt := congrArg Int32.toInt ((hf8.get kh rfl).trans ((Fr.refl (l := [])).get kh rfl))
  have t_h12 : (I8 h 12).toInt = (I h 12).toInt := congrArg Int32.toInt ((hf8.get kh rfl).trans ((Fr.refl (l := [])).get kh rfl))
  have t_lk1 : (I8 lk 1).toInt = (I lk 1).toInt := congrArg Int32.toInt ((hf8.get klk rfl).trans ((Fr.refl (l := [])).get klk rfl))
  have t_lk3 : (I8 lk 3).toInt = (I lk 3).toInt := congrArg Int32.toInt ((hf8.get klk rfl).trans ((Fr.refl (l := [])).get klk rfl))
  have t_lk4 : (I8 lk 4).toInt = (I lk 4).toInt := congrArg Int32.toInt ((hf8.get klk rfl).trans ((Fr.refl (l := [])).get klk rfl))
  have t_lk5 : (I8 lk 5).toInt = (I lk 5).toInt := congrArg Int32.toInt ((hf8.get klk rfl).trans ((Fr.refl (l := [])).get klk rfl))
  have t_rd0 : (I8 rd 0).toInt = (I rd 0).toInt := congrArg Int32.toInt ((hf8.get krd rfl).trans ((Fr.refl (l := [])).get krd rfl))
  have t_m20 : (I8 m 20).toInt = (I m 20).toInt := congrArg Int32.toInt ((hf8.get km rfl).trans ((Fr.refl (l := [])).get km rfl))
  have lcn := (lc.mv hs kx (Fr.refl (l := [])) kh klk rfl).mv hs kx hf8 kh klk rfl
  rcases lr.2 with ⟨r3, n1, n2, n3, n4, n5, n6, n7, n8, n9, nr0⟩ | ⟨hm, r3, khm, m0, m1, m2, m3, m4, m5, m6, m7, m8, m9⟩
  · have pq := k8_0
    rcases pq with ⟨-, pq⟩ | ⟨hm9, z9, -⟩
    rotate_left
    · rw [r3] at z9; cases z9
    obtain ⟨z7, zo, zz⟩ := pq
    have eqv : x4_.toInt = x8_.toInt := by
      rcases (show x3_.toInt = 0 ∨ x3_.toInt = 1 ∨ x3_.toInt = 2 ∨ x3_.toInt = 3 ∨ x3_.toInt = 4 ∨ x3_.toInt = 5 ∨ x3_.toInt = 6 ∨ x3_.toInt = 7 ∨ x3_.toInt = 8 ∨ x3_.toInt = 9 ∨ (x3_.toInt < 0 ∨ 9 < x3_.toInt) by clear k4_0 k4_1 k4_2 k4_3 k4_4 k4_5 k4_6 k4_7 k4_8 k4_9 k4_10 z7 zo zz; omega) with hj | hj | hj | hj | hj | hj | hj | hj | hj | hj | hj
      · have h8 := k4_0 hj; have h9 := zz ⟨by clear k4_0 k4_1 k4_2 k4_3 k4_4 k4_5 k4_6 k4_7 k4_8 k4_9 k4_10 z7 zo zz; omega, by clear k4_0 k4_1 k4_2 k4_3 k4_4 k4_5 k4_6 k4_7 k4_8 k4_9 k4_10 z7 zo zz; omega, by clear k4_0 k4_1 k4_2 k4_3 k4_4 k4_5 k4_6 k4_7 k4_8 k4_9 k4_10 z7 zo zz; omega⟩; clear k4_0 k4_1 k4_2 k4_3 k4_4 k4_5 k4_6 k4_7 k4_8 k4_9 k4_10 z7 zo zz; omega
      · have h8 := k4_1 hj; have h9 := zz ⟨by clear k4_0 k4_1 k4_2 k4_3 k4_4 k4_5 k4_6 k4_7 k4_8 k4_9 k4_10 z7 zo zz; omega, by clear k4_0 k4_1 k4_2 k4_3 k4_4 k4_5 k4_6 k4_7 k4_8 k4_9 k4_10 z7 zo zz; omega, by clear k4_0 k4_1 k4_2 k4_3 k4_4 k4_5 k4_6 k4_7 k4_8 k4_9 k4_10 z7 zo zz; omega⟩; clear k4_0 k4_1 k4_2 k4_3 k4_4 k4_5 k4_6 k4_7 k4_8 k4_9 k4_10 z7 zo zz; omega
      · have h8 := k4_2 hj; have h9 := zz ⟨by clear k4_0 k4_1 k4_2 k4_3 k4_4 k4_5 k4_6 k4_7 k4_8 k4_9 k4_10 z7 zo zz; omega, by clear k4_0 k4_1 k4_2 k4_3 k4_4 k4_5 k4_6 k4_7 k4_8 k4_9 k4_10 z7 zo zz; omega, by clear k4_0 k4_1 k4_2 k4_3 k4_4 k4_5 k4_6 k4_7 k4_8 k4_9 k4_10 z7 zo zz; omega⟩; clear k4_0 k4_1 k4_2 k4_3 k4_4 k4_5 k4_6 k4_7 k4_8 k4_9 k4_10 z7 zo zz; omega
      · have h8 := k4_3 hj; have h9 := zz ⟨by clear k4_0 k4_1 k4_2 k4_3 k4_4 k4_5 k4_6 k4_7 k4_8 k4_9 k4_10 z7 zo zz; omega, by clear k4_0 k4_1 k4_2 k4_3 k4_4 k4_5 k4_6 k4_7 k4_8 k4_9 k4_10 z7 zo zz; omega, by clear k4_0 k4_1 k4_2 k4_3 k4_4 k4_5 k4_6 k4_7 k4_8 k4_9 k4_10 z7 zo zz; omega⟩; clear k4_0 k4_1 k4_2 k4_3 k4_4 k4_5 k4_6 k4_7 k4_8 k4_9 k4_10 z7 zo zz; omega
      · have h8 := k4_4 hj; have h9 := zz ⟨by clear k4_0 k4_1 k4_2 k4_3 k4_4 k4_5 k4_6 k4_7 k4_8 k4_9 k4_10 z7 zo zz; omega, by clear k4_0 k4_1 k4_2 k4_3 k4_4 k4_5 k4_6 k4_7 k4_8 k4_9 k4_10 z7 zo zz; omega, by clear k4_0 k4_1 k4_2 k4_3 k4_4 k4_5 k4_6 k4_7 k4_8 k4_9 k4_10 z7 zo zz; omega⟩; clear k4_0 k4_1 k4_2 k4_3 k4_4 k4_5 k4_6 k4_7 k4_8 k4_9 k4_10 z7 zo zz; omega
      · have h8 := k4_5 hj; have h9 := zz ⟨by clear k4_0 k4_1 k4_2 k4_3 k4_4 k4_5 k4_6 k4_7 k4_8 k4_9 k4_10 z7 zo zz; omega, by clear k4_0 k4_1 k4_2 k4_3 k4_4 k4_5 k4_6 k4_7 k4_8 k4_9 k4_10 z7 zo zz; omega, by clear k4_0 k4_1 k4_2 k4_3 k4_4 k4_5 k4_6 k4_7 k4_8 k4_9 k4_10 z7 zo zz; omega⟩; clear k4_0 k4_1 k4_2 k4_3 k4_4 k4_5 k4_6 k4_7 k4_8 k4_9 k4_10 z7 zo zz; omega
      · have h8 := k4_6 hj; have h9 := zz ⟨by clear k4_0 k4_1 k4_2 k4_3 k4_4 k4_5 k4_6 k4_7 k4_8 k4_9 k4_10 z7 zo zz; omega, by clear k4_0 k4_1 k4_2 k4_3 k4_4 k4_5 k4_6 k4_7 k4_8 k4_9 k4_10 z7 zo zz; omega, by clear k4_0 k4_1 k4_2 k4_3 k4_4 k4_5 k4_6 k4_7 k4_8 k4_9 k4_10 z7 zo zz; omega⟩; clear k4_0 k4_1 k4_2 k4_3 k4_4 k4_5 k4_6 k4_7 k4_8 k4_9 k4_10 z7 zo zz; omega
      · have h8 := k4_7 hj; have h9 := z7 hj; have h7 := lr.1; clear k4_0 k4_1 k4_2 k4_3 k4_4 k4_5 k4_6 k4_7 k4_8 k4_9 k4_10 z7 zo zz; omega
      · have h8 := k4_8 hj; have h9 := zz ⟨by clear k4_0 k4_1 k4_2 k4_3 k4_4 k4_5 k4_6 k4_7 k4_8 k4_9 k4_10 z7 zo zz; omega, by clear k4_0 k4_1 k4_2 k4_3 k4_4 k4_5 k4_6 k4_7 k4_8 k4_9 k4_10 z7 zo zz; omega, by clear k4_0 k4_1 k4_2 k4_3 k4_4 k4_5 k4_6 k4_7 k4_8 k4_9 k4_10 z7 zo zz; omega⟩; clear k4_0 k4_1 k4_2 k4_3 k4_4 k4_5 k4_6 k4_7 k4_8 k4_9 k4_10 z7 zo zz; omega
      · have h8 := k4_9 hj; have h9 := zz ⟨by clear k4_0 k4_1 k4_2 k4_3 k4_4 k4_5 k4_6 k4_7 k4_8 k4_9 k4_10 z7 zo zz; omega, by clear k4_0 k4_1 k4_2 k4_3 k4_4 k4_5 k4_6 k4_7 k4_8 k4_9 k4_10 z7 zo zz; omega, by clear k4_0 k4_1 k4_2 k4_3 k4_4 k4_5 k4_6 k4_7 k4_8 k4_9 k4_10 z7 zo zz; omega⟩; clear k4_0 k4_1 k4_2 k4_3 k4_4 k4_5 k4_6 k4_7 k4_8 k4_9 k4_10 z7 zo zz; omega
      · have h8 := k4_10 hj; have h9 := zo hj; have h7 := lr.1; clear k4_0 k4_1 k4_2 k4_3 k4_4 k4_5 k4_6 k4_7 k4_8 k4_9 k4_10 z7 zo zz; omega
    clear k4_0 k4_1 k4_2 k4_3 k4_4 k4_5 k4_6 k4_7 k4_8 k4_9 k4_10 z7 zo zz
    refine r_pop hC dL_law_1236 rfl ?_
    refine r_goto hC (tgt := 1253) dL_law_1237 (by decide) ?_
    refine r_sub [0, 1, 2, 3, 4] rfl ?_
    refine r_widen hC (k2 := cn + 18) (n2 := sn + 231) (Nat.le_add_right _ _) (Nat.le_add_right _ _) ?_
    exact kk K len I8 J R ⟨hs8, la, ⟨h, s, lk, ls, lh, (lr.mv (Fr.refl (l := [])) kh klk krd km rfl).mv hf8 kh klk krd km rfl, lcn⟩, lbv⟩
  · have pq := k8_0
    rcases pq with ⟨z9, -⟩ | ⟨hm9, z9, pq⟩
    · rw [r3] at z9; cases z9
    rw [r3] at z9; cases z9
    have t_h1 : (I8 h 1).toInt = (I h 1).toInt := congrArg Int32.toInt ((hf8.get kh rfl).trans ((Fr.refl (l := [])).get kh rfl))
    have t_h4 : (I8 h 4).toInt = (I h 4).toInt := congrArg Int32.toInt ((hf8.get kh rfl).trans ((Fr.refl (l := [])).get kh rfl))
    have t_h6 : (I8 h 6).toInt = (I h 6).toInt := congrArg Int32.toInt ((hf8.get kh rfl).trans ((Fr.refl (l := [])).get kh rfl))
    have t_h8 : (I8 h 8).toInt = (I h 8).toInt := congrArg Int32.toInt ((hf8.get kh rfl).trans ((Fr.refl (l := [])).get kh rfl))
    have t_h12 : (I8 h 12).toInt = (I h 12).toInt := congrArg Int32.toInt ((hf8.get kh rfl).trans ((Fr.refl (l := [])).get kh rfl))
    have t_lk1 : (I8 lk 1).toInt = (I lk 1).toInt := congrArg Int32.toInt ((hf8.get klk rfl).trans ((Fr.refl (l := [])).get klk rfl))
    have t_lk3 : (I8 lk 3).toInt = (I lk 3).toInt := congrArg Int32.toInt ((hf8.get klk rfl).trans ((Fr.refl (l := [])).get klk rfl))
    have t_lk4 : (I8 lk 4).toInt = (I lk 4).toInt := congrArg Int32.toInt ((hf8.get klk rfl).trans ((Fr.refl (l := [])).get klk rfl))
    have t_lk5 : (I8 lk 5).toInt = (I lk 5).toInt := congrArg Int32.toInt ((hf8.get klk rfl).trans ((Fr.refl (l := [])).get klk rfl))
    have t_rd0 : (I8 rd 0).toInt = (I rd 0).toInt := congrArg Int32.toInt ((hf8.get krd rfl).trans ((Fr.refl (l := [])).get krd rfl))
    have t_m20 : (I8 m 20).toInt = (I m 20).toInt := congrArg Int32.toInt ((hf8.get km rfl).trans ((Fr.refl (l := [])).get km rfl))
    have t_hm0 : (I8 hm 0).toInt = (I hm 0).toInt := congrArg Int32.toInt ((hf8.get khm rfl).trans ((Fr.refl (l := [])).get khm rfl))
    have t_hm2 : (I8 hm 2).toInt = (I hm 2).toInt := congrArg Int32.toInt ((hf8.get khm rfl).trans ((Fr.refl (l := [])).get khm rfl))
    have t_hm3 : (I8 hm 3).toInt = (I hm 3).toInt := congrArg Int32.toInt ((hf8.get khm rfl).trans ((Fr.refl (l := [])).get khm rfl))
    have t_hm4 : (I8 hm 4).toInt = (I hm 4).toInt := congrArg Int32.toInt ((hf8.get khm rfl).trans ((Fr.refl (l := [])).get khm rfl))
    have t_hm5 : (I8 hm 5).toInt = (I hm 5).toInt := congrArg Int32.toInt ((hf8.get khm rfl).trans ((Fr.refl (l := [])).get khm rfl))
    have t_hm6 : (I8 hm 6).toInt = (I hm 6).toInt := congrArg Int32.toInt ((hf8.get khm rfl).trans ((Fr.refl (l := [])).get khm rfl))
    have t_hm7 : (I8 hm 7).toInt = (I hm 7).toInt := congrArg Int32.toInt ((hf8.get khm rfl).trans ((Fr.refl (l := [])).get khm rfl))
    have t_hm8 : (I8 hm 8).toInt = (I hm 8).toInt := congrArg Int32.toInt ((hf8.get khm rfl).trans ((Fr.refl (l := [])).get khm rfl))
    have t_hm9 : (I8 hm 9).toInt = (I hm 9).toInt := congrArg Int32.toInt ((hf8.get khm rfl).trans ((Fr.refl (l := [])).get khm rfl))
    obtain ⟨z0, z1, z2, z3, z4, z5, z6, z7, z8, z9, zo⟩ := pq
    have eqv : x4_.toInt = x8_.toInt := by
      rcases (show x3_.toInt = 0 ∨ x3_.toInt = 1 ∨ x3_.toInt = 2 ∨ x3_.toInt = 3 ∨ x3_.toInt = 4 ∨ x3_.toInt = 5 ∨ x3_.toInt = 6 ∨ x3_.toInt = 7 ∨ x3_.toInt = 8 ∨ x3_.toInt = 9 ∨ (x3_.toInt < 0 ∨ 9 < x3_.toInt) by clear k4_0 k4_1 k4_2 k4_3 k4_4 k4_5 k4_6 k4_7 k4_8 k4_9 k4_10 z0 z1 z2 z3 z4 z5 z6 z7 z8 z9 zo; omega) with hj | hj | hj | hj | hj | hj | hj | hj | hj | hj | hj
      · have h8 := k4_0 hj; have h9 := z0 hj; have h7 := lr.1; clear k4_0 k4_1 k4_2 k4_3 k4_4 k4_5 k4_6 k4_7 k4_8 k4_9 k4_10 z0 z1 z2 z3 z4 z5 z6 z7 z8 z9 zo; omega
      · have h8 := k4_1 hj; have h9 := z1 hj; have h7 := lr.1; clear k4_0 k4_1 k4_2 k4_3 k4_4 k4_5 k4_6 k4_7 k4_8 k4_9 k4_10 z0 z1 z2 z3 z4 z5 z6 z7 z8 z9 zo; omega
      · have h8 := k4_2 hj; have h9 := z2 hj; have h7 := lr.1; clear k4_0 k4_1 k4_2 k4_3 k4_4 k4_5 k4_6 k4_7 k4_8 k4_9 k4_10 z0 z1 z2 z3 z4 z5 z6 z7 z8 z9 zo; omega
      · have h8 := k4_3 hj; have h9 := z3 hj; have h7 := lr.1; clear k4_0 k4_1 k4_2 k4_3 k4_4 k4_5 k4_6 k4_7 k4_8 k4_9 k4_10 z0 z1 z2 z3 z4 z5 z6 z7 z8 z9 zo; omega
      · have h8 := k4_4 hj; have h9 := z4 hj; have h7 := lr.1; clear k4_0 k4_1 k4_2 k4_3 k4_4 k4_5 k4_6 k4_7 k4_8 k4_9 k4_10 z0 z1 z2 z3 z4 z5 z6 z7 z8 z9 zo; omega
      · have h8 := k4_5 hj; have h9 := z5 hj; have h7 := lr.1; clear k4_0 k4_1 k4_2 k4_3 k4_4 k4_5 k4_6 k4_7 k4_8 k4_9 k4_10 z0 z1 z2 z3 z4 z5 z6 z7 z8 z9 zo; omega
      · have h8 := k4_6 hj; have h9 := z6 hj; have h7 := lr.1; clear k4_0 k4_1 k4_2 k4_3 k4_4 k4_5 k4_6 k4_7 k4_8 k4_9 k4_10 z0 z1 z2 z3 z4 z5 z6 z7 z8 z9 zo; omega
      · have h8 := k4_7 hj; have h9 := z7 hj; have h7 := lr.1; clear k4_0 k4_1 k4_2 k4_3 k4_4 k4_5 k4_6 k4_7 k4_8 k4_9 k4_10 z0 z1 z2 z3 z4 z5 z6 z7 z8 z9 zo; omega
      · have h8 := k4_8 hj; have h9 := z8 hj; have h7 := lr.1; clear k4_0 k4_1 k4_2 k4_3 k4_4 k4_5 k4_6 k4_7 k4_8 k4_9 k4_10 z0 z1 z2 z3 z4 z5 z6 z7 z8 z9 zo; omega
      · have h8 := k4_9 hj; have h9 := z9 hj; have h7 := lr.1; clear k4_0 k4_1 k4_2 k4_3 k4_4 k4_5 k4_6 k4_7 k4_8 k4_9 k4_10 z0 z1 z2 z3 z4 z5 z6 z7 z8 z9 zo; omega
      · have h8 := k4_10 hj; have h9 := zo hj; have h7 := lr.1; clear k4_0 k4_1 k4_2 k4_3 k4_4 k4_5 k4_6 k4_7 k4_8 k4_9 k4_10 z0 z1 z2 z3 z4 z5 z6 z7 z8 z9 zo; omega
    clear k4_0 k4_1 k4_2 k4_3 k4_4 k4_5 k4_6 k4_7 k4_8 k4_9 k4_10 z0 z1 z2 z3 z4 z5 z6 z7 z8 z9 zo
    refine r_pop hC dL_law_1236 rfl ?_
    refine r_goto hC (tgt := 1253) dL_law_1237 (by decide) ?_
    refine r_sub [0, 1, 2, 3, 4] rfl ?_
    refine r_widen hC (k2 := cn + 18) (n2 := sn + 231) (Nat.le_add_right _ _) (Nat.le_add_right _ _) ?_
    exact kk K len I8 J R ⟨hs8, la, ⟨h, s, lk, ls, lh, (lr.mv (Fr.refl (l := [])) kh klk krd km rfl).mv hf8 kh klk krd km rfl, lcn⟩, lbv⟩
set_option maxHeartbeats 4000000 in
set_option maxRecDepth 100000 in
theorem law_33 {g : GG} {X : XT} {b L : Nat} {xs : Nat → Int32} (hX : LX g X b L xs) {x m o tp bt te tk nr pr rd mt cn sn : Nat} {i : Int32} {K len : Nat → Nat} {I : Nat → Nat → Int32} {J : Nat → Nat → Int64} {R : Nat → Nat → Option Nat} (hI : LI x m o tp bt te tk nr pr rd mt K len I R) (hi : 0 ≤ i.toInt) (hiL : i.toInt + 6 ≤ L) (hcn : cn + 18 ≤ 601024) (hsn : sn + 231 ≤ 7293034) (kk : ∀ K' len' I' J' R', LI x m o tp bt te tk nr pr rd mt K' len' I' R' → P g X 7 1253 [(0, .ref b), (1, .ref x), (2, .ref m), (3, .ref o), (4, .int i)] [] (cn + 18) (sn + 231) (K', len', I', J', R')) : P g X 7 1240 [(0, .ref b), (1, .ref x), (2, .ref m), (3, .ref o), (4, .int i)] [] cn sn (K, len, I, J, R) := by
  obtain ⟨hC, hcs, hl, hXs, hb, hbA, hL⟩ := hX
  obtain ⟨hs, la, ⟨h, s, lk, ls, lh, lr, lc⟩, lb, lv⟩ := id hI
  obtain ⟨hu, DA, rwd, scd, lcm⟩ := id lc
  obtain ⟨sd1, sd2, sd3, sd4, sd5, sd7, sd8, sd9⟩ := id scd
  obtain ⟨kx, km, ⟨ko, no⟩, ⟨htp, ktp⟩, ⟨hbb, kbt, nbt⟩, ⟨hte, kte⟩, ⟨htk, ktk⟩, hbt, ⟨hnr, knr, lnr⟩, ⟨hpr, kpr, lpr⟩, ⟨hrd, krd⟩, ⟨hmt, kmt, nmt⟩⟩ := id la
  obtain ⟨⟨hh, kh⟩, ⟨hs2, ks⟩, ⟨hlk2, klk⟩, ⟨hls, kls⟩, nhs, nls⟩ := id lh
  obtain ⟨lv1, lv2, lv3, lv4⟩ := id lv
  obtain ⟨lw, hlw, klw, llw⟩ := hs.row kx 4 41 60 (by decide) (by decide)
  obtain ⟨kn, hkn, kkn, lkn⟩ := hs.row kx 6 43 6 (by decide) (by decide)
  obtain ⟨tl, htl, ktl, ltl⟩ := hs.row kx 7 41 60 (by decide) (by decide)
  obtain ⟨lrw, hlrw, klrw, llrw⟩ := hs.row km 15 85 60 (by decide) (by decide)
  have nlt : lw ≠ tl := hu.ne hlw htl (by rw [klw]; decide) (Or.inr (by decide))
  refine r_aload_n hC dL_law_1240 1 rfl ?_
  refine r_callV hC (As := []) (rest := []) (ci := 8) (c_X8_trouble g (xL X) K len I J R hs x kx ) mT_4_153 mT_1_1 mT_4_150 mT_4_151 mT_4_152 okX8_trouble ⟨by decide, by decide⟩ rfl (by show kO (K x) = _; rw [kx]; rfl) rfl rfl (Nat.le_of_ble_eq_true rfl) ⟨by show cn + 0 ≤ 601024; omega, by show sn + 0 ≤ 7293034; omega⟩ dL_law_1241 (aI0 (F := fun st M => P g X 7 1244 [(0, .ref b), (1, .ref x), (2, .ref m), (3, .ref o), (4, .int i)] st _ _ M) (M := (K, len, I, J, R)) fun x1_  h1 => ?_)
  show P g X 7 1244 [(0, .ref b), (1, .ref x), (2, .ref m), (3, .ref o), (4, .int i)] [.int x1_] cn sn (K, len, I, J, R)
  refine r_pop hC dL_law_1244 rfl ?_
  refine r_aload_n hC dL_law_1245 2 rfl ?_
  refine r_callV hC (As := []) (rest := []) (ci := 10) (c_X10_trouble g (xL X) K len I J R hs m km ) mT_7_84 mT_1_10 mT_7_81 mT_7_82 mT_7_83 okX10_trouble ⟨by decide, by decide⟩ rfl (by show kO (K m) = _; rw [km]; rfl) rfl rfl (Nat.le_of_ble_eq_true rfl) ⟨by show cn + 0 ≤ 601024; omega, by show sn + 0 ≤ 7293034; omega⟩ dL_law_1246 (aI1 (F := fun st M => P g X 7 1249 [(0, .ref b), (1, .ref x), (2, .ref m), (3, .ref o), (4, .int i)] st _ _ M) (M := (K, len, I, J, R)) fun x2_ I2 h2 => ?_)
  obtain ⟨hs2, hf2⟩ := h2
  show P g X 7 1249 [(0, .ref b), (1, .ref x), (2, .ref m), (3, .ref o), (4, .int i)] [.int x2_] cn sn (K, len, I2, J, R)
  refine r_pop hC dL_law_1249 rfl ?_
  refine r_goto hC (tgt := 1253) dL_law_1250 (by decide) ?_
  refine r_sub [0, 1, 2, 3, 4] rfl ?_
  refine r_widen hC (k2 := cn + 18) (n2 := sn + 231) (by omega) (by omega) ?_
  exact kk K len I2 J R (hI.sil hs2 (Fr.refl (l := [])) hf2 rfl rfl rfl rfl rfl rfl rfl rfl rfl rfl)

