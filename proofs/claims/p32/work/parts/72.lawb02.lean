set_option maxHeartbeats 4000000 in
set_option maxRecDepth 100000 in
theorem law_22 {g : GG} {X : XT} {b L : Nat} {xs : Nat → Int32} (hX : LX g X b L xs) {x m o tp bt te tk nr pr rd mt cn sn : Nat} {i : Int32} {K len : Nat → Nat} {I : Nat → Nat → Int32} {J : Nat → Nat → Int64} {R : Nat → Nat → Option Nat} (hI : LI x m o tp bt te tk nr pr rd mt K len I R) (hi : 0 ≤ i.toInt) (hiL : i.toInt + 6 ≤ L) (hcn : cn + 18 ≤ 601024) (hsn : sn + 231 ≤ 7293034) (kk : ∀ K' len' I' J' R', LI x m o tp bt te tk nr pr rd mt K' len' I' R' → P g X 7 1253 [(0, .ref b), (1, .ref x), (2, .ref m), (3, .ref o), (4, .int i)] [] (cn + 18) (sn + 231) (K', len', I', J', R')) : P g X 7 890 [(0, .ref b), (1, .ref x), (2, .ref m), (3, .ref o), (4, .int i)] [] cn sn (K, len, I, J, R) := by
  obtain ⟨hC, hcs, hl, hXs, hb, hbA, hL⟩ := hX
  obtain ⟨hs, la, ⟨h, s, lk, ls, lh, lr, lc⟩, lb, lv⟩ := id hI
  obtain ⟨hu, DA, lcb, EA, kc, rdm⟩ := id lc
  obtain ⟨rwd, scd, lcm⟩ := id lcb
  obtain ⟨sd1, sd2, sd3, sd4, sd5, sd7, sd8, sd9⟩ := id scd
  obtain ⟨kx, km, ⟨ko, no⟩, ⟨htp, ktp⟩, ⟨hbb, kbt, nbt⟩, ⟨hte, kte⟩, ⟨htk, ktk⟩, hbt, ⟨hnr, knr, lnr⟩, ⟨hpr, kpr, lpr⟩, ⟨hrd, krd⟩, ⟨hmt, kmt, nmt⟩⟩ := id la
  obtain ⟨⟨hh, kh⟩, ⟨hs2, ks⟩, ⟨hlk2, klk⟩, ⟨hls, kls⟩, nhs, nls⟩ := id lh
  obtain ⟨lv1, lv2, lv3, lv4⟩ := id lv
  obtain ⟨lw, hlw, klw, llw⟩ := hs.row kx 4 41 60 (by decide) (by decide)
  obtain ⟨kn, hkn, kkn, lkn⟩ := hs.row kx 6 43 6 (by decide) (by decide)
  obtain ⟨cr, hcr, kcr1, lcr⟩ := hs.row kx 5 44 6 (by decide) (by decide)
  have ka : KA x h lk rd K len R := ⟨⟨_, hs⟩, hu, kx, kh, klk, krd⟩
  have rdb9 := hs.rng krd (k := 0) rfl (x := I rd 0) rfl
  obtain ⟨tl, htl, ktl, ltl⟩ := hs.row kx 7 41 60 (by decide) (by decide)
  obtain ⟨lrw, hlrw, klrw, llrw⟩ := hs.row km 15 85 60 (by decide) (by decide)
  have nlt : lw ≠ tl := hu.ne hlw htl (by rw [klw]; decide) (Or.inr (by decide))
  refine r_aload_n hC dL_law_890 1 rfl ?_
  refine r_aload_n hC dL_law_891 0 rfl ?_
  refine r_iload hC dL_law_892 4 rfl ?_
  refine r_iconst hC (v := (1)) dL_law_894 (by decide) (by decide) (fun x1_ e1 t1 => ?_)
  refine r_iadd hC dL_law_895 (fun x2_ e2 => ?_)
  have t2 : x2_.toInt = i.toInt + 1 := sAd e2 t1 (by decide) (by decide) hi hiL hL
  refine r_sld hC hXs hb hbA (sLo t2 (by decide) hi) (sHi t2 (by decide) hiL) dL_law_896 (fun x3_ e3 => ?_)
  refine r_callV hC (As := [.int x3_]) (rest := []) (ci := 8) (f_X8_last g (xL X) K len I J R hs x kx x3_ h hh kh lk hlk2 klk rd hrd krd lw hlw klw llw kn hkn kkn lkn cr hcr kcr1 lcr hu DA EA kc) mT_4_78 mT_1_1 mT_4_75 mT_4_76 mT_4_77 okX8_last ⟨by decide, by decide⟩ rfl (by show kO (K x) = _; rw [kx]; rfl) rfl rfl (Nat.le_of_ble_eq_true rfl) ⟨Nat.le_trans (show cn + 0 ≤ cn + 18 from Nat.add_le_add_left (by decide) cn) hcn, Nat.le_trans (show sn + 0 ≤ sn + 231 from Nat.add_le_add_left (by decide) sn) hsn⟩ dL_law_897 (aI1 (F := fun st M => P g X 7 900 [(0, .ref b), (1, .ref x), (2, .ref m), (3, .ref o), (4, .int i)] st _ _ M) (M := (K, len, I, J, R)) fun x4_ I4 h4 => ?_)
  obtain ⟨hs4, hf4, k4_0, k4_1⟩ := h4
  show P g X 7 900 [(0, .ref b), (1, .ref x), (2, .ref m), (3, .ref o), (4, .int i)] [.int x4_] cn sn (K, len, I4, J, R)
  refine r_pop hC dL_law_900 rfl ?_
  refine r_aload_n hC dL_law_901 2 rfl ?_
  refine r_aload_n hC dL_law_902 0 rfl ?_
  refine r_iload hC dL_law_903 4 rfl ?_
  refine r_iconst hC (v := (1)) dL_law_905 (by decide) (by decide) (fun x5_ e5 t5 => ?_)
  refine r_iadd hC dL_law_906 (fun x6_ e6 => ?_)
  have t6 : x6_.toInt = i.toInt + 1 := sAd e6 t5 (by decide) (by decide) hi hiL hL
  refine r_sld hC hXs hb hbA (sLo t6 (by decide) hi) (sHi t6 (by decide) hiL) dL_law_907 (fun x7_ e7 => ?_)
  obtain rfl : x3_ = x7_ := sld_eq e3 e7 (t2.trans t6.symm)
  refine r_callV hC (As := [.int x3_]) (rest := []) (ci := 10) (c_X10_last g (xL X) K len I4 J R hs4 m km x3_) mT_7_23 mT_1_10 mT_7_20 mT_7_21 mT_7_22 okX10_last ⟨by decide, by decide⟩ rfl (by show kO (K m) = _; rw [km]; rfl) rfl rfl (Nat.le_of_ble_eq_true rfl) ⟨Nat.le_trans (show cn + 0 ≤ cn + 18 from Nat.add_le_add_left (by decide) cn) hcn, Nat.le_trans (show sn + 0 ≤ sn + 231 from Nat.add_le_add_left (by decide) sn) hsn⟩ dL_law_908 (aI1 (F := fun st M => P g X 7 911 [(0, .ref b), (1, .ref x), (2, .ref m), (3, .ref o), (4, .int i)] st _ _ M) (M := (K, len, I4, J, R)) fun x8_ I8 h8 => ?_)
  obtain ⟨hs8, hf8, k8_0⟩ := h8
  show P g X 7 911 [(0, .ref b), (1, .ref x), (2, .ref m), (3, .ref o), (4, .int i)] [.int x8_] cn sn (K, len, I8, J, R)
  have lbv := LBV.ref la lb lv hf4 hf8 rfl rfl rfl k4_1 k8_0
  have lcn := LC.two hu lcb rdm lr hs kx km krd kh klk hf4 hf8 k4_0 rfl rfl rfl
  refine r_pop hC dL_law_911 rfl ?_
  refine r_goto hC (tgt := 1253) dL_law_912 (by decide) ?_
  refine r_sub [0, 1, 2, 3, 4] rfl ?_
  refine r_widen hC (k2 := cn + 18) (n2 := sn + 231) (Nat.le_add_right _ _) (Nat.le_add_right _ _) ?_
  exact kk K len I8 J R ⟨hs8, la, ⟨h, s, lk, ls, lh, (lr.mv hf4 kh klk krd km rfl).mv hf8 kh klk krd km rfl, lcn⟩, lbv⟩
set_option maxHeartbeats 4000000 in
set_option maxRecDepth 100000 in
theorem law_23 {g : GG} {X : XT} {b L : Nat} {xs : Nat → Int32} (hX : LX g X b L xs) {x m o tp bt te tk nr pr rd mt cn sn : Nat} {i : Int32} {K len : Nat → Nat} {I : Nat → Nat → Int32} {J : Nat → Nat → Int64} {R : Nat → Nat → Option Nat} (hI : LI x m o tp bt te tk nr pr rd mt K len I R) (hi : 0 ≤ i.toInt) (hiL : i.toInt + 6 ≤ L) (hcn : cn + 18 ≤ 601024) (hsn : sn + 231 ≤ 7293034) (kk : ∀ K' len' I' J' R', LI x m o tp bt te tk nr pr rd mt K' len' I' R' → P g X 7 1253 [(0, .ref b), (1, .ref x), (2, .ref m), (3, .ref o), (4, .int i)] [] (cn + 18) (sn + 231) (K', len', I', J', R')) : P g X 7 915 [(0, .ref b), (1, .ref x), (2, .ref m), (3, .ref o), (4, .int i)] [] cn sn (K, len, I, J, R) := by
  obtain ⟨hC, hcs, hl, hXs, hb, hbA, hL⟩ := hX
  obtain ⟨hs, la, ⟨h, s, lk, ls, lh, lr, lc⟩, lb, lv⟩ := id hI
  obtain ⟨hu, DA, lcb, EA, kc, rdm⟩ := id lc
  obtain ⟨rwd, scd, lcm⟩ := id lcb
  obtain ⟨sd1, sd2, sd3, sd4, sd5, sd7, sd8, sd9⟩ := id scd
  obtain ⟨kx, km, ⟨ko, no⟩, ⟨htp, ktp⟩, ⟨hbb, kbt, nbt⟩, ⟨hte, kte⟩, ⟨htk, ktk⟩, hbt, ⟨hnr, knr, lnr⟩, ⟨hpr, kpr, lpr⟩, ⟨hrd, krd⟩, ⟨hmt, kmt, nmt⟩⟩ := id la
  obtain ⟨⟨hh, kh⟩, ⟨hs2, ks⟩, ⟨hlk2, klk⟩, ⟨hls, kls⟩, nhs, nls⟩ := id lh
  obtain ⟨lv1, lv2, lv3, lv4⟩ := id lv
  obtain ⟨lw, hlw, klw, llw⟩ := hs.row kx 4 41 60 (by decide) (by decide)
  obtain ⟨kn, hkn, kkn, lkn⟩ := hs.row kx 6 43 6 (by decide) (by decide)
  obtain ⟨cr, hcr, kcr1, lcr⟩ := hs.row kx 5 44 6 (by decide) (by decide)
  have ka : KA x h lk rd K len R := ⟨⟨_, hs⟩, hu, kx, kh, klk, krd⟩
  have rdb9 := hs.rng krd (k := 0) rfl (x := I rd 0) rfl
  obtain ⟨tl, htl, ktl, ltl⟩ := hs.row kx 7 41 60 (by decide) (by decide)
  obtain ⟨lrw, hlrw, klrw, llrw⟩ := hs.row km 15 85 60 (by decide) (by decide)
  have nlt : lw ≠ tl := hu.ne hlw htl (by rw [klw]; decide) (Or.inr (by decide))
  refine r_aload_n hC dL_law_915 1 rfl ?_
  refine r_aload_n hC dL_law_916 0 rfl ?_
  refine r_iload hC dL_law_917 4 rfl ?_
  refine r_iconst hC (v := (1)) dL_law_919 (by decide) (by decide) (fun x1_ e1 t1 => ?_)
  refine r_iadd hC dL_law_920 (fun x2_ e2 => ?_)
  have t2 : x2_.toInt = i.toInt + 1 := sAd e2 t1 (by decide) (by decide) hi hiL hL
  refine r_sld hC hXs hb hbA (sLo t2 (by decide) hi) (sHi t2 (by decide) hiL) dL_law_921 (fun x3_ e3 => ?_)
  refine r_callV hC (As := [.int x3_]) (rest := []) (ci := 8) (f_X8_safe g (xL X) K len I J R hs x kx x3_ h hh kh lk hlk2 klk rd hrd krd lw hlw klw llw kn hkn kkn lkn cr hcr kcr1 lcr hu DA EA kc) mT_4_82 mT_1_1 mT_4_79 mT_4_80 mT_4_81 okX8_safe ⟨by decide, by decide⟩ rfl (by show kO (K x) = _; rw [kx]; rfl) rfl rfl (Nat.le_of_ble_eq_true rfl) ⟨Nat.le_trans (show cn + 0 ≤ cn + 18 from Nat.add_le_add_left (by decide) cn) hcn, Nat.le_trans (show sn + 0 ≤ sn + 231 from Nat.add_le_add_left (by decide) sn) hsn⟩ dL_law_922 (aI1 (F := fun st M => P g X 7 925 [(0, .ref b), (1, .ref x), (2, .ref m), (3, .ref o), (4, .int i)] st _ _ M) (M := (K, len, I, J, R)) fun x4_ I4 h4 => ?_)
  obtain ⟨hs4, hf4, k4_0, k4_1⟩ := h4
  show P g X 7 925 [(0, .ref b), (1, .ref x), (2, .ref m), (3, .ref o), (4, .int i)] [.int x4_] cn sn (K, len, I4, J, R)
  refine r_pop hC dL_law_925 rfl ?_
  refine r_aload_n hC dL_law_926 2 rfl ?_
  refine r_aload_n hC dL_law_927 0 rfl ?_
  refine r_iload hC dL_law_928 4 rfl ?_
  refine r_iconst hC (v := (1)) dL_law_930 (by decide) (by decide) (fun x5_ e5 t5 => ?_)
  refine r_iadd hC dL_law_931 (fun x6_ e6 => ?_)
  have t6 : x6_.toInt = i.toInt + 1 := sAd e6 t5 (by decide) (by decide) hi hiL hL
  refine r_sld hC hXs hb hbA (sLo t6 (by decide) hi) (sHi t6 (by decide) hiL) dL_law_932 (fun x7_ e7 => ?_)
  obtain rfl : x3_ = x7_ := sld_eq e3 e7 (t2.trans t6.symm)
  refine r_callV hC (As := [.int x3_]) (rest := []) (ci := 10) (c_X10_safe g (xL X) K len I4 J R hs4 m km x3_) mT_7_27 mT_1_10 mT_7_24 mT_7_25 mT_7_26 okX10_safe ⟨by decide, by decide⟩ rfl (by show kO (K m) = _; rw [km]; rfl) rfl rfl (Nat.le_of_ble_eq_true rfl) ⟨Nat.le_trans (show cn + 0 ≤ cn + 18 from Nat.add_le_add_left (by decide) cn) hcn, Nat.le_trans (show sn + 0 ≤ sn + 231 from Nat.add_le_add_left (by decide) sn) hsn⟩ dL_law_933 (aI1 (F := fun st M => P g X 7 936 [(0, .ref b), (1, .ref x), (2, .ref m), (3, .ref o), (4, .int i)] st _ _ M) (M := (K, len, I4, J, R)) fun x8_ I8 h8 => ?_)
  obtain ⟨hs8, hf8, k8_0⟩ := h8
  show P g X 7 936 [(0, .ref b), (1, .ref x), (2, .ref m), (3, .ref o), (4, .int i)] [.int x8_] cn sn (K, len, I8, J, R)
  have lbv := LBV.ref la lb lv hf4 hf8 rfl rfl rfl k4_1 k8_0
  have lcn := LC.two hu lcb rdm lr hs kx km krd kh klk hf4 hf8 k4_0 rfl rfl rfl
  refine r_pop hC dL_law_936 rfl ?_
  refine r_goto hC (tgt := 1253) dL_law_937 (by decide) ?_
  refine r_sub [0, 1, 2, 3, 4] rfl ?_
  refine r_widen hC (k2 := cn + 18) (n2 := sn + 231) (Nat.le_add_right _ _) (Nat.le_add_right _ _) ?_
  exact kk K len I8 J R ⟨hs8, la, ⟨h, s, lk, ls, lh, (lr.mv hf4 kh klk krd km rfl).mv hf8 kh klk krd km rfl, lcn⟩, lbv⟩
set_option maxHeartbeats 4000000 in
set_option maxRecDepth 100000 in
theorem law_24 {g : GG} {X : XT} {b L : Nat} {xs : Nat → Int32} (hX : LX g X b L xs) {x m o tp bt te tk nr pr rd mt cn sn : Nat} {i : Int32} {K len : Nat → Nat} {I : Nat → Nat → Int32} {J : Nat → Nat → Int64} {R : Nat → Nat → Option Nat} (hI : LI x m o tp bt te tk nr pr rd mt K len I R) (hi : 0 ≤ i.toInt) (hiL : i.toInt + 6 ≤ L) (hcn : cn + 18 ≤ 601024) (hsn : sn + 231 ≤ 7293034) (kk : ∀ K' len' I' J' R', LI x m o tp bt te tk nr pr rd mt K' len' I' R' → P g X 7 1253 [(0, .ref b), (1, .ref x), (2, .ref m), (3, .ref o), (4, .int i)] [] (cn + 18) (sn + 231) (K', len', I', J', R')) : P g X 7 940 [(0, .ref b), (1, .ref x), (2, .ref m), (3, .ref o), (4, .int i)] [] cn sn (K, len, I, J, R) := by
  obtain ⟨hC, hcs, hl, hXs, hb, hbA, hL⟩ := hX
  obtain ⟨hs, la, ⟨h, s, lk, ls, lh, lr, lc⟩, lb, lv⟩ := id hI
  obtain ⟨hu, DA, lcb, EA, kc, rdm⟩ := id lc
  obtain ⟨rwd, scd, lcm⟩ := id lcb
  obtain ⟨sd1, sd2, sd3, sd4, sd5, sd7, sd8, sd9⟩ := id scd
  obtain ⟨kx, km, ⟨ko, no⟩, ⟨htp, ktp⟩, ⟨hbb, kbt, nbt⟩, ⟨hte, kte⟩, ⟨htk, ktk⟩, hbt, ⟨hnr, knr, lnr⟩, ⟨hpr, kpr, lpr⟩, ⟨hrd, krd⟩, ⟨hmt, kmt, nmt⟩⟩ := id la
  obtain ⟨⟨hh, kh⟩, ⟨hs2, ks⟩, ⟨hlk2, klk⟩, ⟨hls, kls⟩, nhs, nls⟩ := id lh
  obtain ⟨lv1, lv2, lv3, lv4⟩ := id lv
  obtain ⟨lw, hlw, klw, llw⟩ := hs.row kx 4 41 60 (by decide) (by decide)
  obtain ⟨kn, hkn, kkn, lkn⟩ := hs.row kx 6 43 6 (by decide) (by decide)
  obtain ⟨cr, hcr, kcr1, lcr⟩ := hs.row kx 5 44 6 (by decide) (by decide)
  have ka : KA x h lk rd K len R := ⟨⟨_, hs⟩, hu, kx, kh, klk, krd⟩
  have rdb9 := hs.rng krd (k := 0) rfl (x := I rd 0) rfl
  obtain ⟨tl, htl, ktl, ltl⟩ := hs.row kx 7 41 60 (by decide) (by decide)
  obtain ⟨lrw, hlrw, klrw, llrw⟩ := hs.row km 15 85 60 (by decide) (by decide)
  have nlt : lw ≠ tl := hu.ne hlw htl (by rw [klw]; decide) (Or.inr (by decide))
  refine r_aload_n hC dL_law_940 1 rfl ?_
  refine r_aload_n hC dL_law_941 0 rfl ?_
  refine r_iload hC dL_law_942 4 rfl ?_
  refine r_iconst hC (v := (1)) dL_law_944 (by decide) (by decide) (fun x1_ e1 t1 => ?_)
  refine r_iadd hC dL_law_945 (fun x2_ e2 => ?_)
  have t2 : x2_.toInt = i.toInt + 1 := sAd e2 t1 (by decide) (by decide) hi hiL hL
  refine r_sld hC hXs hb hbA (sLo t2 (by decide) hi) (sHi t2 (by decide) hiL) dL_law_946 (fun x3_ e3 => ?_)
  refine r_aload_n hC dL_law_947 0 rfl ?_
  refine r_iload hC dL_law_948 4 rfl ?_
  refine r_iconst hC (v := (2)) dL_law_950 (by decide) (by decide) (fun x4_ e4 t4 => ?_)
  refine r_iadd hC dL_law_951 (fun x5_ e5 => ?_)
  have t5 : x5_.toInt = i.toInt + 2 := sAd e5 t4 (by decide) (by decide) hi hiL hL
  refine r_sld hC hXs hb hbA (sLo t5 (by decide) hi) (sHi t5 (by decide) hiL) dL_law_952 (fun x6_ e6 => ?_)
  refine r_callV hC (As := [.int x3_, .int x6_]) (rest := []) (ci := 8) (f_X8_found g (xL X) K len I J R hs x kx x3_ x6_ h hh kh lk hlk2 klk DA rwd sd7) mT_4_94 mT_1_1 mT_4_91 mT_4_92 mT_4_93 okX8_found ⟨by decide, by decide⟩ rfl (by show kO (K x) = _; rw [kx]; rfl) rfl rfl (Nat.le_of_ble_eq_true rfl) ⟨Nat.le_trans (show cn + 0 ≤ cn + 18 from Nat.add_le_add_left (by decide) cn) hcn, Nat.le_trans (show sn + 0 ≤ sn + 231 from Nat.add_le_add_left (by decide) sn) hsn⟩ dL_law_953 (aI1 (F := fun st M => P g X 7 956 [(0, .ref b), (1, .ref x), (2, .ref m), (3, .ref o), (4, .int i)] st _ _ M) (M := (K, len, I, J, R)) fun x7_ I7 h7 => ?_)
  obtain ⟨hs7, hf7, k7_0, k7_1⟩ := h7
  show P g X 7 956 [(0, .ref b), (1, .ref x), (2, .ref m), (3, .ref o), (4, .int i)] [.int x7_] cn sn (K, len, I7, J, R)
  refine r_pop hC dL_law_956 rfl ?_
  refine r_aload_n hC dL_law_957 2 rfl ?_
  refine r_aload_n hC dL_law_958 0 rfl ?_
  refine r_iload hC dL_law_959 4 rfl ?_
  refine r_iconst hC (v := (1)) dL_law_961 (by decide) (by decide) (fun x8_ e8 t8 => ?_)
  refine r_iadd hC dL_law_962 (fun x9_ e9 => ?_)
  have t9 : x9_.toInt = i.toInt + 1 := sAd e9 t8 (by decide) (by decide) hi hiL hL
  refine r_sld hC hXs hb hbA (sLo t9 (by decide) hi) (sHi t9 (by decide) hiL) dL_law_963 (fun x10_ e10 => ?_)
  obtain rfl : x3_ = x10_ := sld_eq e3 e10 (t2.trans t9.symm)
  refine r_aload_n hC dL_law_964 0 rfl ?_
  refine r_iload hC dL_law_965 4 rfl ?_
  refine r_iconst hC (v := (2)) dL_law_967 (by decide) (by decide) (fun x11_ e11 t11 => ?_)
  refine r_iadd hC dL_law_968 (fun x12_ e12 => ?_)
  have t12 : x12_.toInt = i.toInt + 2 := sAd e12 t11 (by decide) (by decide) hi hiL hL
  refine r_sld hC hXs hb hbA (sLo t12 (by decide) hi) (sHi t12 (by decide) hiL) dL_law_969 (fun x13_ e13 => ?_)
  obtain rfl : x6_ = x13_ := sld_eq e6 e13 (t5.trans t12.symm)
  refine r_callV hC (As := [.int x3_, .int x6_]) (rest := []) (ci := 10) (f_X10_found g (xL X) K len I7 J R hs7 m km x3_ x6_ DA (fun hm z => by obtain ⟨z1, z2, z3, z4, z5⟩ := lcm hm z; exact ⟨z3.mv (CM_x hs z1) qM_big hf7 rfl, by rw [hf7.get z1 rfl]; exact z4.2.2.2.2.2.1⟩)) mT_7_31 mT_1_10 mT_7_28 mT_7_29 mT_7_30 okX10_found ⟨by decide, by decide⟩ rfl (by show kO (K m) = _; rw [km]; rfl) rfl rfl (Nat.le_of_ble_eq_true rfl) ⟨Nat.le_trans (show cn + 0 ≤ cn + 18 from Nat.add_le_add_left (by decide) cn) hcn, Nat.le_trans (show sn + 0 ≤ sn + 231 from Nat.add_le_add_left (by decide) sn) hsn⟩ dL_law_970 (aI1 (F := fun st M => P g X 7 973 [(0, .ref b), (1, .ref x), (2, .ref m), (3, .ref o), (4, .int i)] st _ _ M) (M := (K, len, I7, J, R)) fun x14_ I14 h14 => ?_)
  obtain ⟨hs14, hf14, k14_0, k14_1⟩ := h14
  show P g X 7 973 [(0, .ref b), (1, .ref x), (2, .ref m), (3, .ref o), (4, .int i)] [.int x14_] cn sn (K, len, I14, J, R)
  have eqv : x7_.toInt = x14_.toInt := by
    rcases k14_0 with ⟨z9, y9⟩ | ⟨hm9, z9, y9⟩
    · rcases lr.2 with ⟨r3, n1, n2, n3, n4, n5, n6, n7, n8, n9, nr0⟩ | ⟨hm, r3, khm, m0, m1, m2, m3, m4, m5, m6, m7, m8, m9⟩
      · rcases k7_0 with ⟨w1, w2⟩ | ⟨w1, w2⟩
        · exfalso; rw [← sd7, n3] at w1; omega
        · rw [w2, y9]
      · rw [r3] at z9; cases z9
    · exact eq_two k7_0 y9
  refine r_pop hC dL_law_973 rfl ?_
  refine r_goto hC (tgt := 1253) dL_law_974 (by decide) ?_
  refine r_sub [0, 1, 2, 3, 4] rfl ?_
  refine r_widen hC (k2 := cn + 18) (n2 := sn + 231) (by omega) (by omega) ?_
  exact kk K len I14 J R (hI.ref hs14 hf7 hf14 rfl rfl rfl rfl rfl rfl rfl k7_1 k14_1)
set_option maxHeartbeats 4000000 in
set_option maxRecDepth 100000 in
theorem law_25 {g : GG} {X : XT} {b L : Nat} {xs : Nat → Int32} (hX : LX g X b L xs) {x m o tp bt te tk nr pr rd mt cn sn : Nat} {i : Int32} {K len : Nat → Nat} {I : Nat → Nat → Int32} {J : Nat → Nat → Int64} {R : Nat → Nat → Option Nat} (hI : LI x m o tp bt te tk nr pr rd mt K len I R) (hi : 0 ≤ i.toInt) (hiL : i.toInt + 6 ≤ L) (hcn : cn + 18 ≤ 601024) (hsn : sn + 231 ≤ 7293034) (kk : ∀ K' len' I' J' R', LI x m o tp bt te tk nr pr rd mt K' len' I' R' → P g X 7 1253 [(0, .ref b), (1, .ref x), (2, .ref m), (3, .ref o), (4, .int i)] [] (cn + 18) (sn + 231) (K', len', I', J', R')) : P g X 7 977 [(0, .ref b), (1, .ref x), (2, .ref m), (3, .ref o), (4, .int i)] [] cn sn (K, len, I, J, R) := by
  obtain ⟨hC, hcs, hl, hXs, hb, hbA, hL⟩ := hX
  obtain ⟨hs, la, ⟨h, s, lk, ls, lh, lr, lc⟩, lb, lv⟩ := id hI
  obtain ⟨hu, DA, lcb, EA, kc, rdm⟩ := id lc
  obtain ⟨rwd, scd, lcm⟩ := id lcb
  obtain ⟨sd1, sd2, sd3, sd4, sd5, sd7, sd8, sd9⟩ := id scd
  obtain ⟨kx, km, ⟨ko, no⟩, ⟨htp, ktp⟩, ⟨hbb, kbt, nbt⟩, ⟨hte, kte⟩, ⟨htk, ktk⟩, hbt, ⟨hnr, knr, lnr⟩, ⟨hpr, kpr, lpr⟩, ⟨hrd, krd⟩, ⟨hmt, kmt, nmt⟩⟩ := id la
  obtain ⟨⟨hh, kh⟩, ⟨hs2, ks⟩, ⟨hlk2, klk⟩, ⟨hls, kls⟩, nhs, nls⟩ := id lh
  obtain ⟨lv1, lv2, lv3, lv4⟩ := id lv
  obtain ⟨lw, hlw, klw, llw⟩ := hs.row kx 4 41 60 (by decide) (by decide)
  obtain ⟨kn, hkn, kkn, lkn⟩ := hs.row kx 6 43 6 (by decide) (by decide)
  obtain ⟨cr, hcr, kcr1, lcr⟩ := hs.row kx 5 44 6 (by decide) (by decide)
  have ka : KA x h lk rd K len R := ⟨⟨_, hs⟩, hu, kx, kh, klk, krd⟩
  have rdb9 := hs.rng krd (k := 0) rfl (x := I rd 0) rfl
  obtain ⟨tl, htl, ktl, ltl⟩ := hs.row kx 7 41 60 (by decide) (by decide)
  obtain ⟨lrw, hlrw, klrw, llrw⟩ := hs.row km 15 85 60 (by decide) (by decide)
  have nlt : lw ≠ tl := hu.ne hlw htl (by rw [klw]; decide) (Or.inr (by decide))
  refine r_aload_n hC dL_law_977 1 rfl ?_
  refine r_callV hC (As := []) (rest := []) (ci := 8) (f_X8_bore g (xL X) K len I J R hs x kx  h hh kh lk hlk2 klk rd hrd krd lw hlw klw llw kn hkn kkn lkn cr hcr kcr1 lcr hu DA EA kc) mT_4_102 mT_1_1 mT_4_99 mT_4_100 mT_4_101 okX8_bore ⟨by decide, by decide⟩ rfl (by show kO (K x) = _; rw [kx]; rfl) rfl rfl (Nat.le_of_ble_eq_true rfl) ⟨Nat.le_trans (show cn + 0 ≤ cn + 18 from Nat.add_le_add_left (by decide) cn) hcn, Nat.le_trans (show sn + 0 ≤ sn + 231 from Nat.add_le_add_left (by decide) sn) hsn⟩ dL_law_978 (aI1 (F := fun st M => P g X 7 981 [(0, .ref b), (1, .ref x), (2, .ref m), (3, .ref o), (4, .int i)] st _ _ M) (M := (K, len, I, J, R)) fun x1_ I1 h1 => ?_)
  obtain ⟨hs1, hf1, k1_0, k1_1⟩ := h1
  show P g X 7 981 [(0, .ref b), (1, .ref x), (2, .ref m), (3, .ref o), (4, .int i)] [.int x1_] cn sn (K, len, I1, J, R)
  refine r_pop hC dL_law_981 rfl ?_
  refine r_aload_n hC dL_law_982 2 rfl ?_
  refine r_callV hC (As := []) (rest := []) (ci := 10) (c_X10_bore g (xL X) K len I1 J R hs1 m km ) mT_7_39 mT_1_10 mT_7_36 mT_7_37 mT_7_38 okX10_bore ⟨by decide, by decide⟩ rfl (by show kO (K m) = _; rw [km]; rfl) rfl rfl (Nat.le_of_ble_eq_true rfl) ⟨Nat.le_trans (show cn + 0 ≤ cn + 18 from Nat.add_le_add_left (by decide) cn) hcn, Nat.le_trans (show sn + 0 ≤ sn + 231 from Nat.add_le_add_left (by decide) sn) hsn⟩ dL_law_983 (aI1 (F := fun st M => P g X 7 986 [(0, .ref b), (1, .ref x), (2, .ref m), (3, .ref o), (4, .int i)] st _ _ M) (M := (K, len, I1, J, R)) fun x2_ I2 h2 => ?_)
  obtain ⟨hs2, hf2, k2_0⟩ := h2
  show P g X 7 986 [(0, .ref b), (1, .ref x), (2, .ref m), (3, .ref o), (4, .int i)] [.int x2_] cn sn (K, len, I2, J, R)
  have lbv := LBV.ref la lb lv hf1 hf2 rfl rfl rfl k1_1 k2_0
  have lcn := LC.two hu lcb rdm lr hs kx km krd kh klk hf1 hf2 k1_0 rfl rfl rfl
  refine r_pop hC dL_law_986 rfl ?_
  refine r_goto hC (tgt := 1253) dL_law_987 (by decide) ?_
  refine r_sub [0, 1, 2, 3, 4] rfl ?_
  refine r_widen hC (k2 := cn + 18) (n2 := sn + 231) (Nat.le_add_right _ _) (Nat.le_add_right _ _) ?_
  exact kk K len I2 J R ⟨hs2, la, ⟨h, s, lk, ls, lh, (lr.mv hf1 kh klk krd km rfl).mv hf2 kh klk krd km rfl, lcn⟩, lbv⟩
set_option maxHeartbeats 4000000 in
set_option maxRecDepth 100000 in
theorem law_26 {g : GG} {X : XT} {b L : Nat} {xs : Nat → Int32} (hX : LX g X b L xs) {x m o tp bt te tk nr pr rd mt cn sn : Nat} {i : Int32} {K len : Nat → Nat} {I : Nat → Nat → Int32} {J : Nat → Nat → Int64} {R : Nat → Nat → Option Nat} (hI : LI x m o tp bt te tk nr pr rd mt K len I R) (hi : 0 ≤ i.toInt) (hiL : i.toInt + 6 ≤ L) (hcn : cn + 18 ≤ 601024) (hsn : sn + 231 ≤ 7293034) (kk : ∀ K' len' I' J' R', LI x m o tp bt te tk nr pr rd mt K' len' I' R' → P g X 7 1253 [(0, .ref b), (1, .ref x), (2, .ref m), (3, .ref o), (4, .int i)] [] (cn + 18) (sn + 231) (K', len', I', J', R')) : P g X 7 990 [(0, .ref b), (1, .ref x), (2, .ref m), (3, .ref o), (4, .int i)] [] cn sn (K, len, I, J, R) := by
  obtain ⟨hC, hcs, hl, hXs, hb, hbA, hL⟩ := hX
  obtain ⟨hs, la, ⟨h, s, lk, ls, lh, lr, lc⟩, lb, lv⟩ := id hI
  obtain ⟨hu, DA, lcb, EA, kc, rdm⟩ := id lc
  obtain ⟨rwd, scd, lcm⟩ := id lcb
  obtain ⟨sd1, sd2, sd3, sd4, sd5, sd7, sd8, sd9⟩ := id scd
  obtain ⟨kx, km, ⟨ko, no⟩, ⟨htp, ktp⟩, ⟨hbb, kbt, nbt⟩, ⟨hte, kte⟩, ⟨htk, ktk⟩, hbt, ⟨hnr, knr, lnr⟩, ⟨hpr, kpr, lpr⟩, ⟨hrd, krd⟩, ⟨hmt, kmt, nmt⟩⟩ := id la
  obtain ⟨⟨hh, kh⟩, ⟨hs2, ks⟩, ⟨hlk2, klk⟩, ⟨hls, kls⟩, nhs, nls⟩ := id lh
  obtain ⟨lv1, lv2, lv3, lv4⟩ := id lv
  obtain ⟨lw, hlw, klw, llw⟩ := hs.row kx 4 41 60 (by decide) (by decide)
  obtain ⟨kn, hkn, kkn, lkn⟩ := hs.row kx 6 43 6 (by decide) (by decide)
  obtain ⟨cr, hcr, kcr1, lcr⟩ := hs.row kx 5 44 6 (by decide) (by decide)
  have ka : KA x h lk rd K len R := ⟨⟨_, hs⟩, hu, kx, kh, klk, krd⟩
  have rdb9 := hs.rng krd (k := 0) rfl (x := I rd 0) rfl
  obtain ⟨tl, htl, ktl, ltl⟩ := hs.row kx 7 41 60 (by decide) (by decide)
  obtain ⟨lrw, hlrw, klrw, llrw⟩ := hs.row km 15 85 60 (by decide) (by decide)
  have nlt : lw ≠ tl := hu.ne hlw htl (by rw [klw]; decide) (Or.inr (by decide))
  refine r_aload_n hC dL_law_990 1 rfl ?_
  refine r_aload_n hC dL_law_991 0 rfl ?_
  refine r_iload hC dL_law_992 4 rfl ?_
  refine r_iconst hC (v := (1)) dL_law_994 (by decide) (by decide) (fun x1_ e1 t1 => ?_)
  refine r_iadd hC dL_law_995 (fun x2_ e2 => ?_)
  have t2 : x2_.toInt = i.toInt + 1 := sAd e2 t1 (by decide) (by decide) hi hiL hL
  refine r_sld hC hXs hb hbA (sLo t2 (by decide) hi) (sHi t2 (by decide) hiL) dL_law_996 (fun x3_ e3 => ?_)
  refine r_aload_n hC dL_law_997 0 rfl ?_
  refine r_iload hC dL_law_998 4 rfl ?_
  refine r_iconst hC (v := (2)) dL_law_1000 (by decide) (by decide) (fun x4_ e4 t4 => ?_)
  refine r_iadd hC dL_law_1001 (fun x5_ e5 => ?_)
  have t5 : x5_.toInt = i.toInt + 2 := sAd e5 t4 (by decide) (by decide) hi hiL hL
  refine r_sld hC hXs hb hbA (sLo t5 (by decide) hi) (sHi t5 (by decide) hiL) dL_law_1002 (fun x6_ e6 => ?_)
  refine r_callV hC (As := [.int x3_, .int x6_]) (rest := []) (ci := 8) (f_X8_struck g (xL X) K len I J R hs x kx x3_ x6_ h hh kh lk hlk2 klk rd hrd krd lw hlw klw llw kn hkn kkn lkn cr hcr kcr1 lcr hu DA EA kc) mT_4_115 mT_1_1 mT_4_112 mT_4_113 mT_4_114 okX8_struck ⟨by decide, by decide⟩ rfl (by show kO (K x) = _; rw [kx]; rfl) rfl rfl (Nat.le_of_ble_eq_true rfl) ⟨Nat.le_trans (show cn + 0 ≤ cn + 18 from Nat.add_le_add_left (by decide) cn) hcn, Nat.le_trans (show sn + 0 ≤ sn + 231 from Nat.add_le_add_left (by decide) sn) hsn⟩ dL_law_1003 (aI1 (F := fun st M => P g X 7 1006 [(0, .ref b), (1, .ref x), (2, .ref m), (3, .ref o), (4, .int i)] st _ _ M) (M := (K, len, I, J, R)) fun x7_ I7 h7 => ?_)
  obtain ⟨hs7, hf7, k7_0, k7_1⟩ := h7
  show P g X 7 1006 [(0, .ref b), (1, .ref x), (2, .ref m), (3, .ref o), (4, .int i)] [.int x7_] cn sn (K, len, I7, J, R)
  refine r_pop hC dL_law_1006 rfl ?_
  refine r_aload_n hC dL_law_1007 2 rfl ?_
  refine r_aload_n hC dL_law_1008 0 rfl ?_
  refine r_iload hC dL_law_1009 4 rfl ?_
  refine r_iconst hC (v := (1)) dL_law_1011 (by decide) (by decide) (fun x8_ e8 t8 => ?_)
  refine r_iadd hC dL_law_1012 (fun x9_ e9 => ?_)
  have t9 : x9_.toInt = i.toInt + 1 := sAd e9 t8 (by decide) (by decide) hi hiL hL
  refine r_sld hC hXs hb hbA (sLo t9 (by decide) hi) (sHi t9 (by decide) hiL) dL_law_1013 (fun x10_ e10 => ?_)
  obtain rfl : x3_ = x10_ := sld_eq e3 e10 (t2.trans t9.symm)
  refine r_aload_n hC dL_law_1014 0 rfl ?_
  refine r_iload hC dL_law_1015 4 rfl ?_
  refine r_iconst hC (v := (2)) dL_law_1017 (by decide) (by decide) (fun x11_ e11 t11 => ?_)
  refine r_iadd hC dL_law_1018 (fun x12_ e12 => ?_)
  have t12 : x12_.toInt = i.toInt + 2 := sAd e12 t11 (by decide) (by decide) hi hiL hL
  refine r_sld hC hXs hb hbA (sLo t12 (by decide) hi) (sHi t12 (by decide) hiL) dL_law_1019 (fun x13_ e13 => ?_)
  obtain rfl : x6_ = x13_ := sld_eq e6 e13 (t5.trans t12.symm)
  refine r_callV hC (As := [.int x3_, .int x6_]) (rest := []) (ci := 10) (c_X10_struck g (xL X) K len I7 J R hs7 m km x3_ x6_) mT_7_47 mT_1_10 mT_7_44 mT_7_45 mT_7_46 okX10_struck ⟨by decide, by decide⟩ rfl (by show kO (K m) = _; rw [km]; rfl) rfl rfl (Nat.le_of_ble_eq_true rfl) ⟨Nat.le_trans (show cn + 0 ≤ cn + 18 from Nat.add_le_add_left (by decide) cn) hcn, Nat.le_trans (show sn + 0 ≤ sn + 231 from Nat.add_le_add_left (by decide) sn) hsn⟩ dL_law_1020 (aI1 (F := fun st M => P g X 7 1023 [(0, .ref b), (1, .ref x), (2, .ref m), (3, .ref o), (4, .int i)] st _ _ M) (M := (K, len, I7, J, R)) fun x14_ I14 h14 => ?_)
  obtain ⟨hs14, hf14, k14_0⟩ := h14
  show P g X 7 1023 [(0, .ref b), (1, .ref x), (2, .ref m), (3, .ref o), (4, .int i)] [.int x14_] cn sn (K, len, I14, J, R)
  have lbv := LBV.ref la lb lv hf7 hf14 rfl rfl rfl k7_1 k14_0
  have lcn := LC.two hu lcb rdm lr hs kx km krd kh klk hf7 hf14 k7_0 rfl rfl rfl
  refine r_pop hC dL_law_1023 rfl ?_
  refine r_goto hC (tgt := 1253) dL_law_1024 (by decide) ?_
  refine r_sub [0, 1, 2, 3, 4] rfl ?_
  refine r_widen hC (k2 := cn + 18) (n2 := sn + 231) (Nat.le_add_right _ _) (Nat.le_add_right _ _) ?_
  exact kk K len I14 J R ⟨hs14, la, ⟨h, s, lk, ls, lh, (lr.mv hf7 kh klk krd km rfl).mv hf14 kh klk krd km rfl, lcn⟩, lbv⟩

