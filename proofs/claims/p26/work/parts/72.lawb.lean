set_option maxHeartbeats 4000000 in
set_option maxRecDepth 100000 in
theorem law_17 {g : GG} {X : XT} {b L : Nat} {xs : Nat → Int32} (hX : LX g X b L xs) {x m o tp bt te tk nr pr rd mt cn sn : Nat} {i : Int32} {K len : Nat → Nat} {I : Nat → Nat → Int32} {J : Nat → Nat → Int64} {R : Nat → Nat → Option Nat} (hI : LI x m o tp bt te tk nr pr rd mt K len I R) (hi : 0 ≤ i.toInt) (hiL : i.toInt + 6 ≤ L) (hcn : cn + 18 ≤ 601024) (hsn : sn + 231 ≤ 7293034) (kk : ∀ K' len' I' J' R', LI x m o tp bt te tk nr pr rd mt K' len' I' R' → P g X 7 1253 [(0, .ref b), (1, .ref x), (2, .ref m), (3, .ref o), (4, .int i)] [] (cn + 18) (sn + 231) (K', len', I', J', R')) : P g X 7 665 [(0, .ref b), (1, .ref x), (2, .ref m), (3, .ref o), (4, .int i)] [] cn sn (K, len, I, J, R) := by
  obtain ⟨hC, hcs, hl, hXs, hb, hbA, hL⟩ := hX
  obtain ⟨hs, la, ⟨h, s, lk, ls, lh, lr, lc⟩, lb, lv⟩ := id hI
  obtain ⟨hu, DA, rwd, scd, lcm⟩ := id lc
  obtain ⟨sd1, sd2, sd3, sd4, sd5, sd7, sd8, sd9⟩ := id scd
  obtain ⟨kx, km, ⟨ko, no⟩, ⟨htp, ktp⟩, ⟨hbb, kbt, nbt⟩, ⟨hte, kte⟩, ⟨htk, ktk⟩, hbt, ⟨hnr, knr, lnr⟩, ⟨hpr, kpr, lpr⟩, ⟨hrd, krd⟩, ⟨hmt, kmt, nmt⟩⟩ := id la
  obtain ⟨⟨hh, kh⟩, ⟨hs2, ks⟩, ⟨hlk2, klk⟩, ⟨hls, kls⟩, nhs, nls⟩ := id lh
  obtain ⟨lv1, lv2, lv3, lv4⟩ := id lv
  obtain ⟨lw, hlw, klw, llw⟩ := hs.row kx 4 41 60 (by decide) (by decide)
  obtain ⟨kn, hkn, kkn, lkn⟩ := hs.row kx 6 43 6 (by decide) (by decide)
  obtain ⟨tl, htl, ktl, ltl⟩ := hs.row kx 7 41 60 (by decide) (by decide)
  obtain ⟨lrw, hlrw, klrw, llrw⟩ := hs.row km 15 85 60 (by decide) (by decide)
  have nlt : lw ≠ tl := hu.ne hlw htl (by rw [klw]; decide) (Or.inr (by decide))
  refine r_aload_n hC dL_law_665 1 rfl ?_
  refine r_aload_n hC dL_law_666 0 rfl ?_
  refine r_iload hC dL_law_667 4 rfl ?_
  refine r_iconst hC (v := (1)) dL_law_669 (by decide) (by decide) (fun x1_ e1 t1 => ?_)
  refine r_iadd hC dL_law_670 (fun x2_ e2 => ?_)
  try have t2 : x2_.toInt = i.toInt + x1_.toInt := by rw [e2]; exact ti_add (by omega) (by omega)
  refine r_sld hC hXs hb hbA (by omega) (by omega) dL_law_671 (fun x3_ e3 => ?_)
  refine r_callV hC (As := [.int x3_]) (rest := []) (ci := 8) (c_X8_tap g (xL X) K len I J R hs x kx x3_) mT_4_39 mT_1_1 mT_4_36 mT_4_37 mT_4_38 okX8_tap ⟨by decide, by decide⟩ rfl (by show kO (K x) = _; rw [kx]; rfl) rfl rfl (Nat.le_of_ble_eq_true rfl) ⟨by show cn + 0 ≤ 601024; omega, by show sn + 0 ≤ 7293034; omega⟩ dL_law_672 (aI1 (F := fun st M => P g X 7 675 [(0, .ref b), (1, .ref x), (2, .ref m), (3, .ref o), (4, .int i)] st _ _ M) (M := (K, len, I, J, R)) fun x4_ I4 h4 => ?_)
  obtain ⟨hs4, hf4, k4_0⟩ := h4
  show P g X 7 675 [(0, .ref b), (1, .ref x), (2, .ref m), (3, .ref o), (4, .int i)] [.int x4_] cn sn (K, len, I4, J, R)
  refine r_pop hC dL_law_675 rfl ?_
  refine r_aload_n hC dL_law_676 2 rfl ?_
  refine r_aload_n hC dL_law_677 0 rfl ?_
  refine r_iload hC dL_law_678 4 rfl ?_
  refine r_iconst hC (v := (1)) dL_law_680 (by decide) (by decide) (fun x5_ e5 t5 => ?_)
  refine r_iadd hC dL_law_681 (fun x6_ e6 => ?_)
  try have t6 : x6_.toInt = i.toInt + x5_.toInt := by rw [e6]; exact ti_add (by omega) (by omega)
  refine r_sld hC hXs hb hbA (by omega) (by omega) dL_law_682 (fun x7_ e7 => ?_)
  obtain rfl : x3_ = x7_ := sld_eq e3 e7 (by omega)
  refine r_callV hC (As := [.int x3_]) (rest := []) (ci := 10) (c_X10_tap g (xL X) K len I4 J R hs4 m km x3_) mT_6_224 mT_1_10 mT_6_221 mT_6_222 mT_6_223 okX10_tap ⟨by decide, by decide⟩ rfl (by show kO (K m) = _; rw [km]; rfl) rfl rfl (Nat.le_of_ble_eq_true rfl) ⟨by show cn + 0 ≤ 601024; omega, by show sn + 0 ≤ 7293034; omega⟩ dL_law_683 (aI1 (F := fun st M => P g X 7 686 [(0, .ref b), (1, .ref x), (2, .ref m), (3, .ref o), (4, .int i)] st _ _ M) (M := (K, len, I4, J, R)) fun x8_ I8 h8 => ?_)
  obtain ⟨hs8, hf8, k8_0⟩ := h8
  show P g X 7 686 [(0, .ref b), (1, .ref x), (2, .ref m), (3, .ref o), (4, .int i)] [.int x8_] cn sn (K, len, I8, J, R)
  refine r_pop hC dL_law_686 rfl ?_
  refine r_goto hC (tgt := 1253) dL_law_687 (by decide) ?_
  refine r_sub [0, 1, 2, 3, 4] rfl ?_
  refine r_widen hC (k2 := cn + 18) (n2 := sn + 231) (by omega) (by omega) ?_
  exact kk K len I8 J R (hI.ref hs8 hf4 hf8 rfl rfl rfl rfl rfl rfl rfl k4_0 k8_0)
set_option maxHeartbeats 4000000 in
set_option maxRecDepth 100000 in
theorem law_18 {g : GG} {X : XT} {b L : Nat} {xs : Nat → Int32} (hX : LX g X b L xs) {x m o tp bt te tk nr pr rd mt cn sn : Nat} {i : Int32} {K len : Nat → Nat} {I : Nat → Nat → Int32} {J : Nat → Nat → Int64} {R : Nat → Nat → Option Nat} (hI : LI x m o tp bt te tk nr pr rd mt K len I R) (hi : 0 ≤ i.toInt) (hiL : i.toInt + 6 ≤ L) (hcn : cn + 18 ≤ 601024) (hsn : sn + 231 ≤ 7293034) (kk : ∀ K' len' I' J' R', LI x m o tp bt te tk nr pr rd mt K' len' I' R' → P g X 7 1253 [(0, .ref b), (1, .ref x), (2, .ref m), (3, .ref o), (4, .int i)] [] (cn + 18) (sn + 231) (K', len', I', J', R')) : P g X 7 690 [(0, .ref b), (1, .ref x), (2, .ref m), (3, .ref o), (4, .int i)] [] cn sn (K, len, I, J, R) := by
  obtain ⟨hC, hcs, hl, hXs, hb, hbA, hL⟩ := hX
  obtain ⟨hs, la, ⟨h, s, lk, ls, lh, lr, lc⟩, lb, lv⟩ := id hI
  obtain ⟨hu, DA, rwd, scd, lcm⟩ := id lc
  obtain ⟨sd1, sd2, sd3, sd4, sd5, sd7, sd8, sd9⟩ := id scd
  obtain ⟨kx, km, ⟨ko, no⟩, ⟨htp, ktp⟩, ⟨hbb, kbt, nbt⟩, ⟨hte, kte⟩, ⟨htk, ktk⟩, hbt, ⟨hnr, knr, lnr⟩, ⟨hpr, kpr, lpr⟩, ⟨hrd, krd⟩, ⟨hmt, kmt, nmt⟩⟩ := id la
  obtain ⟨⟨hh, kh⟩, ⟨hs2, ks⟩, ⟨hlk2, klk⟩, ⟨hls, kls⟩, nhs, nls⟩ := id lh
  obtain ⟨lv1, lv2, lv3, lv4⟩ := id lv
  obtain ⟨lw, hlw, klw, llw⟩ := hs.row kx 4 41 60 (by decide) (by decide)
  obtain ⟨kn, hkn, kkn, lkn⟩ := hs.row kx 6 43 6 (by decide) (by decide)
  obtain ⟨tl, htl, ktl, ltl⟩ := hs.row kx 7 41 60 (by decide) (by decide)
  obtain ⟨lrw, hlrw, klrw, llrw⟩ := hs.row km 15 85 60 (by decide) (by decide)
  have nlt : lw ≠ tl := hu.ne hlw htl (by rw [klw]; decide) (Or.inr (by decide))
  refine r_aload_n hC dL_law_690 1 rfl ?_
  refine r_aload_n hC dL_law_691 0 rfl ?_
  refine r_iload hC dL_law_692 4 rfl ?_
  refine r_iconst hC (v := (1)) dL_law_694 (by decide) (by decide) (fun x1_ e1 t1 => ?_)
  refine r_iadd hC dL_law_695 (fun x2_ e2 => ?_)
  try have t2 : x2_.toInt = i.toInt + x1_.toInt := by rw [e2]; exact ti_add (by omega) (by omega)
  refine r_sld hC hXs hb hbA (by omega) (by omega) dL_law_696 (fun x3_ e3 => ?_)
  refine r_callV hC (As := [.int x3_]) (rest := []) (ci := 8) (c_X8_fooled g (xL X) K len I J R hs x kx x3_) mT_4_55 mT_1_1 mT_4_52 mT_4_53 mT_4_54 okX8_fooled ⟨by decide, by decide⟩ rfl (by show kO (K x) = _; rw [kx]; rfl) rfl rfl (Nat.le_of_ble_eq_true rfl) ⟨by show cn + 0 ≤ 601024; omega, by show sn + 0 ≤ 7293034; omega⟩ dL_law_697 (aI1 (F := fun st M => P g X 7 700 [(0, .ref b), (1, .ref x), (2, .ref m), (3, .ref o), (4, .int i)] st _ _ M) (M := (K, len, I, J, R)) fun x4_ I4 h4 => ?_)
  obtain ⟨hs4, hf4, k4_0⟩ := h4
  show P g X 7 700 [(0, .ref b), (1, .ref x), (2, .ref m), (3, .ref o), (4, .int i)] [.int x4_] cn sn (K, len, I4, J, R)
  refine r_pop hC dL_law_700 rfl ?_
  refine r_aload_n hC dL_law_701 2 rfl ?_
  refine r_aload_n hC dL_law_702 0 rfl ?_
  refine r_iload hC dL_law_703 4 rfl ?_
  refine r_iconst hC (v := (1)) dL_law_705 (by decide) (by decide) (fun x5_ e5 t5 => ?_)
  refine r_iadd hC dL_law_706 (fun x6_ e6 => ?_)
  try have t6 : x6_.toInt = i.toInt + x5_.toInt := by rw [e6]; exact ti_add (by omega) (by omega)
  refine r_sld hC hXs hb hbA (by omega) (by omega) dL_law_707 (fun x7_ e7 => ?_)
  obtain rfl : x3_ = x7_ := sld_eq e3 e7 (by omega)
  refine r_callV hC (As := [.int x3_]) (rest := []) (ci := 10) (c_X10_fooled g (xL X) K len I4 J R hs4 m km x3_) mT_6_236 mT_1_10 mT_6_233 mT_6_234 mT_6_235 okX10_fooled ⟨by decide, by decide⟩ rfl (by show kO (K m) = _; rw [km]; rfl) rfl rfl (Nat.le_of_ble_eq_true rfl) ⟨by show cn + 0 ≤ 601024; omega, by show sn + 0 ≤ 7293034; omega⟩ dL_law_708 (aI1 (F := fun st M => P g X 7 711 [(0, .ref b), (1, .ref x), (2, .ref m), (3, .ref o), (4, .int i)] st _ _ M) (M := (K, len, I4, J, R)) fun x8_ I8 h8 => ?_)
  obtain ⟨hs8, hf8, k8_0⟩ := h8
  show P g X 7 711 [(0, .ref b), (1, .ref x), (2, .ref m), (3, .ref o), (4, .int i)] [.int x8_] cn sn (K, len, I8, J, R)
  refine r_pop hC dL_law_711 rfl ?_
  refine r_goto hC (tgt := 1253) dL_law_712 (by decide) ?_
  refine r_sub [0, 1, 2, 3, 4] rfl ?_
  refine r_widen hC (k2 := cn + 18) (n2 := sn + 231) (by omega) (by omega) ?_
  exact kk K len I8 J R (hI.ref hs8 hf4 hf8 rfl rfl rfl rfl rfl rfl rfl k4_0 k8_0)
set_option maxHeartbeats 4000000 in
set_option maxRecDepth 100000 in
theorem law_19 {g : GG} {X : XT} {b L : Nat} {xs : Nat → Int32} (hX : LX g X b L xs) {x m o tp bt te tk nr pr rd mt cn sn : Nat} {i : Int32} {K len : Nat → Nat} {I : Nat → Nat → Int32} {J : Nat → Nat → Int64} {R : Nat → Nat → Option Nat} (hI : LI x m o tp bt te tk nr pr rd mt K len I R) (hi : 0 ≤ i.toInt) (hiL : i.toInt + 6 ≤ L) (hcn : cn + 18 ≤ 601024) (hsn : sn + 231 ≤ 7293034) (kk : ∀ K' len' I' J' R', LI x m o tp bt te tk nr pr rd mt K' len' I' R' → P g X 7 1253 [(0, .ref b), (1, .ref x), (2, .ref m), (3, .ref o), (4, .int i)] [] (cn + 18) (sn + 231) (K', len', I', J', R')) : P g X 7 715 [(0, .ref b), (1, .ref x), (2, .ref m), (3, .ref o), (4, .int i)] [] cn sn (K, len, I, J, R) := by
  obtain ⟨hC, hcs, hl, hXs, hb, hbA, hL⟩ := hX
  obtain ⟨hs, la, ⟨h, s, lk, ls, lh, lr, lc⟩, lb, lv⟩ := id hI
  obtain ⟨hu, DA, rwd, scd, lcm⟩ := id lc
  obtain ⟨sd1, sd2, sd3, sd4, sd5, sd7, sd8, sd9⟩ := id scd
  obtain ⟨kx, km, ⟨ko, no⟩, ⟨htp, ktp⟩, ⟨hbb, kbt, nbt⟩, ⟨hte, kte⟩, ⟨htk, ktk⟩, hbt, ⟨hnr, knr, lnr⟩, ⟨hpr, kpr, lpr⟩, ⟨hrd, krd⟩, ⟨hmt, kmt, nmt⟩⟩ := id la
  obtain ⟨⟨hh, kh⟩, ⟨hs2, ks⟩, ⟨hlk2, klk⟩, ⟨hls, kls⟩, nhs, nls⟩ := id lh
  obtain ⟨lv1, lv2, lv3, lv4⟩ := id lv
  obtain ⟨lw, hlw, klw, llw⟩ := hs.row kx 4 41 60 (by decide) (by decide)
  obtain ⟨kn, hkn, kkn, lkn⟩ := hs.row kx 6 43 6 (by decide) (by decide)
  obtain ⟨tl, htl, ktl, ltl⟩ := hs.row kx 7 41 60 (by decide) (by decide)
  obtain ⟨lrw, hlrw, klrw, llrw⟩ := hs.row km 15 85 60 (by decide) (by decide)
  have nlt : lw ≠ tl := hu.ne hlw htl (by rw [klw]; decide) (Or.inr (by decide))
  refine r_aload_n hC dL_law_715 1 rfl ?_
  refine r_aload_n hC dL_law_716 0 rfl ?_
  refine r_iload hC dL_law_717 4 rfl ?_
  refine r_iconst hC (v := (1)) dL_law_719 (by decide) (by decide) (fun x1_ e1 t1 => ?_)
  refine r_iadd hC dL_law_720 (fun x2_ e2 => ?_)
  try have t2 : x2_.toInt = i.toInt + x1_.toInt := by rw [e2]; exact ti_add (by omega) (by omega)
  refine r_sld hC hXs hb hbA (by omega) (by omega) dL_law_721 (fun x3_ e3 => ?_)
  refine r_aload_n hC dL_law_722 0 rfl ?_
  refine r_iload hC dL_law_723 4 rfl ?_
  refine r_iconst hC (v := (2)) dL_law_725 (by decide) (by decide) (fun x4_ e4 t4 => ?_)
  refine r_iadd hC dL_law_726 (fun x5_ e5 => ?_)
  try have t5 : x5_.toInt = i.toInt + x4_.toInt := by rw [e5]; exact ti_add (by omega) (by omega)
  refine r_sld hC hXs hb hbA (by omega) (by omega) dL_law_727 (fun x6_ e6 => ?_)
  refine r_aload_n hC dL_law_728 0 rfl ?_
  refine r_iload hC dL_law_729 4 rfl ?_
  refine r_iconst hC (v := (3)) dL_law_731 (by decide) (by decide) (fun x7_ e7 t7 => ?_)
  refine r_iadd hC dL_law_732 (fun x8_ e8 => ?_)
  try have t8 : x8_.toInt = i.toInt + x7_.toInt := by rw [e8]; exact ti_add (by omega) (by omega)
  refine r_sld hC hXs hb hbA (by omega) (by omega) dL_law_733 (fun x9_ e9 => ?_)
  refine r_callV hC (As := [.int x3_, .int x6_, .int x9_]) (rest := []) (ci := 8) (c_X8_nought g (xL X) K len I J R hs x kx x3_ x6_ x9_) mT_4_59 mT_1_1 mT_4_56 mT_4_57 mT_4_58 okX8_nought ⟨by decide, by decide⟩ rfl (by show kO (K x) = _; rw [kx]; rfl) rfl rfl (Nat.le_of_ble_eq_true rfl) ⟨by show cn + 0 ≤ 601024; omega, by show sn + 0 ≤ 7293034; omega⟩ dL_law_734 (aI1 (F := fun st M => P g X 7 737 [(0, .ref b), (1, .ref x), (2, .ref m), (3, .ref o), (4, .int i)] st _ _ M) (M := (K, len, I, J, R)) fun x10_ I10 h10 => ?_)
  obtain ⟨hs10, hf10, k10_0⟩ := h10
  show P g X 7 737 [(0, .ref b), (1, .ref x), (2, .ref m), (3, .ref o), (4, .int i)] [.int x10_] cn sn (K, len, I10, J, R)
  refine r_pop hC dL_law_737 rfl ?_
  refine r_aload_n hC dL_law_738 2 rfl ?_
  refine r_aload_n hC dL_law_739 0 rfl ?_
  refine r_iload hC dL_law_740 4 rfl ?_
  refine r_iconst hC (v := (1)) dL_law_742 (by decide) (by decide) (fun x11_ e11 t11 => ?_)
  refine r_iadd hC dL_law_743 (fun x12_ e12 => ?_)
  try have t12 : x12_.toInt = i.toInt + x11_.toInt := by rw [e12]; exact ti_add (by omega) (by omega)
  refine r_sld hC hXs hb hbA (by omega) (by omega) dL_law_744 (fun x13_ e13 => ?_)
  obtain rfl : x3_ = x13_ := sld_eq e3 e13 (by omega)
  refine r_aload_n hC dL_law_745 0 rfl ?_
  refine r_iload hC dL_law_746 4 rfl ?_
  refine r_iconst hC (v := (2)) dL_law_748 (by decide) (by decide) (fun x14_ e14 t14 => ?_)
  refine r_iadd hC dL_law_749 (fun x15_ e15 => ?_)
  try have t15 : x15_.toInt = i.toInt + x14_.toInt := by rw [e15]; exact ti_add (by omega) (by omega)
  refine r_sld hC hXs hb hbA (by omega) (by omega) dL_law_750 (fun x16_ e16 => ?_)
  obtain rfl : x6_ = x16_ := sld_eq e6 e16 (by omega)
  refine r_aload_n hC dL_law_751 0 rfl ?_
  refine r_iload hC dL_law_752 4 rfl ?_
  refine r_iconst hC (v := (3)) dL_law_754 (by decide) (by decide) (fun x17_ e17 t17 => ?_)
  refine r_iadd hC dL_law_755 (fun x18_ e18 => ?_)
  try have t18 : x18_.toInt = i.toInt + x17_.toInt := by rw [e18]; exact ti_add (by omega) (by omega)
  refine r_sld hC hXs hb hbA (by omega) (by omega) dL_law_756 (fun x19_ e19 => ?_)
  obtain rfl : x9_ = x19_ := sld_eq e9 e19 (by omega)
  refine r_callV hC (As := [.int x3_, .int x6_, .int x9_]) (rest := []) (ci := 10) (c_X10_nought g (xL X) K len I10 J R hs10 m km x3_ x6_ x9_) mT_7_0 mT_1_10 mT_6_237 mT_6_238 mT_6_239 okX10_nought ⟨by decide, by decide⟩ rfl (by show kO (K m) = _; rw [km]; rfl) rfl rfl (Nat.le_of_ble_eq_true rfl) ⟨by show cn + 0 ≤ 601024; omega, by show sn + 0 ≤ 7293034; omega⟩ dL_law_757 (aI1 (F := fun st M => P g X 7 760 [(0, .ref b), (1, .ref x), (2, .ref m), (3, .ref o), (4, .int i)] st _ _ M) (M := (K, len, I10, J, R)) fun x20_ I20 h20 => ?_)
  obtain ⟨hs20, hf20, k20_0⟩ := h20
  show P g X 7 760 [(0, .ref b), (1, .ref x), (2, .ref m), (3, .ref o), (4, .int i)] [.int x20_] cn sn (K, len, I20, J, R)
  refine r_pop hC dL_law_760 rfl ?_
  refine r_goto hC (tgt := 1253) dL_law_761 (by decide) ?_
  refine r_sub [0, 1, 2, 3, 4] rfl ?_
  refine r_widen hC (k2 := cn + 18) (n2 := sn + 231) (by omega) (by omega) ?_
  exact kk K len I20 J R (hI.ref hs20 hf10 hf20 rfl rfl rfl rfl rfl rfl rfl k10_0 k20_0)
set_option maxHeartbeats 4000000 in
set_option maxRecDepth 100000 in
theorem law_20 {g : GG} {X : XT} {b L : Nat} {xs : Nat → Int32} (hX : LX g X b L xs) {x m o tp bt te tk nr pr rd mt cn sn : Nat} {i : Int32} {K len : Nat → Nat} {I : Nat → Nat → Int32} {J : Nat → Nat → Int64} {R : Nat → Nat → Option Nat} (hI : LI x m o tp bt te tk nr pr rd mt K len I R) (hi : 0 ≤ i.toInt) (hiL : i.toInt + 6 ≤ L) (hcn : cn + 18 ≤ 601024) (hsn : sn + 231 ≤ 7293034) (kk : ∀ K' len' I' J' R', LI x m o tp bt te tk nr pr rd mt K' len' I' R' → P g X 7 1253 [(0, .ref b), (1, .ref x), (2, .ref m), (3, .ref o), (4, .int i)] [] (cn + 18) (sn + 231) (K', len', I', J', R')) : P g X 7 764 [(0, .ref b), (1, .ref x), (2, .ref m), (3, .ref o), (4, .int i)] [] cn sn (K, len, I, J, R) := by
  obtain ⟨hC, hcs, hl, hXs, hb, hbA, hL⟩ := hX
  obtain ⟨hs, la, ⟨h, s, lk, ls, lh, lr, lc⟩, lb, lv⟩ := id hI
  obtain ⟨hu, DA, rwd, scd, lcm⟩ := id lc
  obtain ⟨sd1, sd2, sd3, sd4, sd5, sd7, sd8, sd9⟩ := id scd
  obtain ⟨kx, km, ⟨ko, no⟩, ⟨htp, ktp⟩, ⟨hbb, kbt, nbt⟩, ⟨hte, kte⟩, ⟨htk, ktk⟩, hbt, ⟨hnr, knr, lnr⟩, ⟨hpr, kpr, lpr⟩, ⟨hrd, krd⟩, ⟨hmt, kmt, nmt⟩⟩ := id la
  obtain ⟨⟨hh, kh⟩, ⟨hs2, ks⟩, ⟨hlk2, klk⟩, ⟨hls, kls⟩, nhs, nls⟩ := id lh
  obtain ⟨lv1, lv2, lv3, lv4⟩ := id lv
  obtain ⟨lw, hlw, klw, llw⟩ := hs.row kx 4 41 60 (by decide) (by decide)
  obtain ⟨kn, hkn, kkn, lkn⟩ := hs.row kx 6 43 6 (by decide) (by decide)
  obtain ⟨tl, htl, ktl, ltl⟩ := hs.row kx 7 41 60 (by decide) (by decide)
  obtain ⟨lrw, hlrw, klrw, llrw⟩ := hs.row km 15 85 60 (by decide) (by decide)
  have nlt : lw ≠ tl := hu.ne hlw htl (by rw [klw]; decide) (Or.inr (by decide))
  refine r_aload_n hC dL_law_764 1 rfl ?_
  refine r_aload_n hC dL_law_765 0 rfl ?_
  refine r_iload hC dL_law_766 4 rfl ?_
  refine r_iconst hC (v := (1)) dL_law_768 (by decide) (by decide) (fun x1_ e1 t1 => ?_)
  refine r_iadd hC dL_law_769 (fun x2_ e2 => ?_)
  try have t2 : x2_.toInt = i.toInt + x1_.toInt := by rw [e2]; exact ti_add (by omega) (by omega)
  refine r_sld hC hXs hb hbA (by omega) (by omega) dL_law_770 (fun x3_ e3 => ?_)
  refine r_aload_n hC dL_law_771 0 rfl ?_
  refine r_iload hC dL_law_772 4 rfl ?_
  refine r_iconst hC (v := (2)) dL_law_774 (by decide) (by decide) (fun x4_ e4 t4 => ?_)
  refine r_iadd hC dL_law_775 (fun x5_ e5 => ?_)
  try have t5 : x5_.toInt = i.toInt + x4_.toInt := by rw [e5]; exact ti_add (by omega) (by omega)
  refine r_sld hC hXs hb hbA (by omega) (by omega) dL_law_776 (fun x6_ e6 => ?_)
  refine r_aload_n hC dL_law_777 0 rfl ?_
  refine r_iload hC dL_law_778 4 rfl ?_
  refine r_iconst hC (v := (3)) dL_law_780 (by decide) (by decide) (fun x7_ e7 t7 => ?_)
  refine r_iadd hC dL_law_781 (fun x8_ e8 => ?_)
  try have t8 : x8_.toInt = i.toInt + x7_.toInt := by rw [e8]; exact ti_add (by omega) (by omega)
  refine r_sld hC hXs hb hbA (by omega) (by omega) dL_law_782 (fun x9_ e9 => ?_)
  refine r_aload_n hC dL_law_783 0 rfl ?_
  refine r_iload hC dL_law_784 4 rfl ?_
  refine r_iconst hC (v := (4)) dL_law_786 (by decide) (by decide) (fun x10_ e10 t10 => ?_)
  refine r_iadd hC dL_law_787 (fun x11_ e11 => ?_)
  try have t11 : x11_.toInt = i.toInt + x10_.toInt := by rw [e11]; exact ti_add (by omega) (by omega)
  refine r_sld hC hXs hb hbA (by omega) (by omega) dL_law_788 (fun x12_ e12 => ?_)
  refine r_aload_n hC dL_law_789 0 rfl ?_
  refine r_iload hC dL_law_790 4 rfl ?_
  refine r_iconst hC (v := (5)) dL_law_792 (by decide) (by decide) (fun x13_ e13 t13 => ?_)
  refine r_iadd hC dL_law_793 (fun x14_ e14 => ?_)
  try have t14 : x14_.toInt = i.toInt + x13_.toInt := by rw [e14]; exact ti_add (by omega) (by omega)
  refine r_sld hC hXs hb hbA (by omega) (by omega) dL_law_794 (fun x15_ e15 => ?_)
  refine r_if_eq hC (tgt := 802) dL_law_795 (by decide) (fun c16 => ?_) (fun c16 => ?_)
  · refine r_iconst hC (v := (0)) dL_law_802 (by decide) (by decide) (fun x17_ e17 t17 => ?_)
    refine r_callV hC (As := [.int x3_, .int x6_, .int x9_, .int x12_, .int x17_]) (rest := []) (ci := 8) (c_X8_span g (xL X) K len I J R hs x kx x3_ x6_ x9_ x12_ x17_) mT_4_66 mT_1_1 mT_4_63 mT_4_64 mT_4_65 okX8_span ⟨by decide, by decide⟩ rfl (by show kO (K x) = _; rw [kx]; rfl) rfl rfl (Nat.le_of_ble_eq_true rfl) ⟨by show cn + 0 ≤ 601024; omega, by show sn + 0 ≤ 7293034; omega⟩ dL_law_803 (aI1 (F := fun st M => P g X 7 806 [(0, .ref b), (1, .ref x), (2, .ref m), (3, .ref o), (4, .int i)] st _ _ M) (M := (K, len, I, J, R)) fun x18_ I18 h18 => ?_)
    obtain ⟨hs18, hf18, k18_0⟩ := h18
    show P g X 7 806 [(0, .ref b), (1, .ref x), (2, .ref m), (3, .ref o), (4, .int i)] [.int x18_] cn sn (K, len, I18, J, R)
    refine r_pop hC dL_law_806 rfl ?_
    refine r_aload_n hC dL_law_807 2 rfl ?_
    refine r_aload_n hC dL_law_808 0 rfl ?_
    refine r_iload hC dL_law_809 4 rfl ?_
    refine r_iconst hC (v := (1)) dL_law_811 (by decide) (by decide) (fun x19_ e19 t19 => ?_)
    refine r_iadd hC dL_law_812 (fun x20_ e20 => ?_)
    try have t20 : x20_.toInt = i.toInt + x19_.toInt := by rw [e20]; exact ti_add (by omega) (by omega)
    refine r_sld hC hXs hb hbA (by omega) (by omega) dL_law_813 (fun x21_ e21 => ?_)
    obtain rfl : x3_ = x21_ := sld_eq e3 e21 (by omega)
    refine r_aload_n hC dL_law_814 0 rfl ?_
    refine r_iload hC dL_law_815 4 rfl ?_
    refine r_iconst hC (v := (2)) dL_law_817 (by decide) (by decide) (fun x22_ e22 t22 => ?_)
    refine r_iadd hC dL_law_818 (fun x23_ e23 => ?_)
    try have t23 : x23_.toInt = i.toInt + x22_.toInt := by rw [e23]; exact ti_add (by omega) (by omega)
    refine r_sld hC hXs hb hbA (by omega) (by omega) dL_law_819 (fun x24_ e24 => ?_)
    obtain rfl : x6_ = x24_ := sld_eq e6 e24 (by omega)
    refine r_aload_n hC dL_law_820 0 rfl ?_
    refine r_iload hC dL_law_821 4 rfl ?_
    refine r_iconst hC (v := (3)) dL_law_823 (by decide) (by decide) (fun x25_ e25 t25 => ?_)
    refine r_iadd hC dL_law_824 (fun x26_ e26 => ?_)
    try have t26 : x26_.toInt = i.toInt + x25_.toInt := by rw [e26]; exact ti_add (by omega) (by omega)
    refine r_sld hC hXs hb hbA (by omega) (by omega) dL_law_825 (fun x27_ e27 => ?_)
    obtain rfl : x9_ = x27_ := sld_eq e9 e27 (by omega)
    refine r_aload_n hC dL_law_826 0 rfl ?_
    refine r_iload hC dL_law_827 4 rfl ?_
    refine r_iconst hC (v := (4)) dL_law_829 (by decide) (by decide) (fun x28_ e28 t28 => ?_)
    refine r_iadd hC dL_law_830 (fun x29_ e29 => ?_)
    try have t29 : x29_.toInt = i.toInt + x28_.toInt := by rw [e29]; exact ti_add (by omega) (by omega)
    refine r_sld hC hXs hb hbA (by omega) (by omega) dL_law_831 (fun x30_ e30 => ?_)
    obtain rfl : x12_ = x30_ := sld_eq e12 e30 (by omega)
    refine r_aload_n hC dL_law_832 0 rfl ?_
    refine r_iload hC dL_law_833 4 rfl ?_
    refine r_iconst hC (v := (5)) dL_law_835 (by decide) (by decide) (fun x31_ e31 t31 => ?_)
    refine r_iadd hC dL_law_836 (fun x32_ e32 => ?_)
    try have t32 : x32_.toInt = i.toInt + x31_.toInt := by rw [e32]; exact ti_add (by omega) (by omega)
    refine r_sld hC hXs hb hbA (by omega) (by omega) dL_law_837 (fun x33_ e33 => ?_)
    obtain rfl : x15_ = x33_ := sld_eq e15 e33 (by omega)
    refine r_if_eq hC (tgt := 845) dL_law_838 (by decide) (fun c34 => ?_) (fun c34 => ?_)
    · refine r_iconst hC (v := (0)) dL_law_845 (by decide) (by decide) (fun x35_ e35 t35 => ?_)
      refine r_callV hC (As := [.int x3_, .int x6_, .int x9_, .int x12_, .int x35_]) (rest := []) (ci := 10) (c_X10_span g (xL X) K len I18 J R hs18 m km x3_ x6_ x9_ x12_ x35_) mT_7_11 mT_1_10 mT_7_8 mT_7_9 mT_7_10 okX10_span ⟨by decide, by decide⟩ rfl (by show kO (K m) = _; rw [km]; rfl) rfl rfl (Nat.le_of_ble_eq_true rfl) ⟨by show cn + 0 ≤ 601024; omega, by show sn + 0 ≤ 7293034; omega⟩ dL_law_846 (aI1 (F := fun st M => P g X 7 849 [(0, .ref b), (1, .ref x), (2, .ref m), (3, .ref o), (4, .int i)] st _ _ M) (M := (K, len, I18, J, R)) fun x36_ I36 h36 => ?_)
      obtain ⟨hs36, hf36, k36_0⟩ := h36
      show P g X 7 849 [(0, .ref b), (1, .ref x), (2, .ref m), (3, .ref o), (4, .int i)] [.int x36_] cn sn (K, len, I36, J, R)
      refine r_pop hC dL_law_849 rfl ?_
      refine r_goto hC (tgt := 1253) dL_law_850 (by decide) ?_
      refine r_sub [0, 1, 2, 3, 4] rfl ?_
      refine r_widen hC (k2 := cn + 18) (n2 := sn + 231) (by omega) (by omega) ?_
      exact kk K len I36 J R (hI.ref hs36 hf18 hf36 rfl rfl rfl rfl rfl rfl rfl k18_0 k36_0)
    · refine r_iconst hC (v := (1)) dL_law_841 (by decide) (by decide) (fun x37_ e37 t37 => ?_)
      refine r_goto hC (tgt := 846) dL_law_842 (by decide) ?_
      refine r_callV hC (As := [.int x3_, .int x6_, .int x9_, .int x12_, .int x37_]) (rest := []) (ci := 10) (c_X10_span g (xL X) K len I18 J R hs18 m km x3_ x6_ x9_ x12_ x37_) mT_7_11 mT_1_10 mT_7_8 mT_7_9 mT_7_10 okX10_span ⟨by decide, by decide⟩ rfl (by show kO (K m) = _; rw [km]; rfl) rfl rfl (Nat.le_of_ble_eq_true rfl) ⟨by show cn + 0 ≤ 601024; omega, by show sn + 0 ≤ 7293034; omega⟩ dL_law_846 (aI1 (F := fun st M => P g X 7 849 [(0, .ref b), (1, .ref x), (2, .ref m), (3, .ref o), (4, .int i)] st _ _ M) (M := (K, len, I18, J, R)) fun x38_ I38 h38 => ?_)
      obtain ⟨hs38, hf38, k38_0⟩ := h38
      show P g X 7 849 [(0, .ref b), (1, .ref x), (2, .ref m), (3, .ref o), (4, .int i)] [.int x38_] cn sn (K, len, I38, J, R)
      refine r_pop hC dL_law_849 rfl ?_
      refine r_goto hC (tgt := 1253) dL_law_850 (by decide) ?_
      refine r_sub [0, 1, 2, 3, 4] rfl ?_
      refine r_widen hC (k2 := cn + 18) (n2 := sn + 231) (by omega) (by omega) ?_
      exact kk K len I38 J R (hI.ref hs38 hf18 hf38 rfl rfl rfl rfl rfl rfl rfl k18_0 k38_0)
  · refine r_iconst hC (v := (1)) dL_law_798 (by decide) (by decide) (fun x39_ e39 t39 => ?_)
    refine r_goto hC (tgt := 803) dL_law_799 (by decide) ?_
    refine r_callV hC (As := [.int x3_, .int x6_, .int x9_, .int x12_, .int x39_]) (rest := []) (ci := 8) (c_X8_span g (xL X) K len I J R hs x kx x3_ x6_ x9_ x12_ x39_) mT_4_66 mT_1_1 mT_4_63 mT_4_64 mT_4_65 okX8_span ⟨by decide, by decide⟩ rfl (by show kO (K x) = _; rw [kx]; rfl) rfl rfl (Nat.le_of_ble_eq_true rfl) ⟨by show cn + 0 ≤ 601024; omega, by show sn + 0 ≤ 7293034; omega⟩ dL_law_803 (aI1 (F := fun st M => P g X 7 806 [(0, .ref b), (1, .ref x), (2, .ref m), (3, .ref o), (4, .int i)] st _ _ M) (M := (K, len, I, J, R)) fun x40_ I40 h40 => ?_)
    obtain ⟨hs40, hf40, k40_0⟩ := h40
    show P g X 7 806 [(0, .ref b), (1, .ref x), (2, .ref m), (3, .ref o), (4, .int i)] [.int x40_] cn sn (K, len, I40, J, R)
    refine r_pop hC dL_law_806 rfl ?_
    refine r_aload_n hC dL_law_807 2 rfl ?_
    refine r_aload_n hC dL_law_808 0 rfl ?_
    refine r_iload hC dL_law_809 4 rfl ?_
    refine r_iconst hC (v := (1)) dL_law_811 (by decide) (by decide) (fun x41_ e41 t41 => ?_)
    refine r_iadd hC dL_law_812 (fun x42_ e42 => ?_)
    try have t42 : x42_.toInt = i.toInt + x41_.toInt := by rw [e42]; exact ti_add (by omega) (by omega)
    refine r_sld hC hXs hb hbA (by omega) (by omega) dL_law_813 (fun x43_ e43 => ?_)
    obtain rfl : x3_ = x43_ := sld_eq e3 e43 (by omega)
    refine r_aload_n hC dL_law_814 0 rfl ?_
    refine r_iload hC dL_law_815 4 rfl ?_
    refine r_iconst hC (v := (2)) dL_law_817 (by decide) (by decide) (fun x44_ e44 t44 => ?_)
    refine r_iadd hC dL_law_818 (fun x45_ e45 => ?_)
    try have t45 : x45_.toInt = i.toInt + x44_.toInt := by rw [e45]; exact ti_add (by omega) (by omega)
    refine r_sld hC hXs hb hbA (by omega) (by omega) dL_law_819 (fun x46_ e46 => ?_)
    obtain rfl : x6_ = x46_ := sld_eq e6 e46 (by omega)
    refine r_aload_n hC dL_law_820 0 rfl ?_
    refine r_iload hC dL_law_821 4 rfl ?_
    refine r_iconst hC (v := (3)) dL_law_823 (by decide) (by decide) (fun x47_ e47 t47 => ?_)
    refine r_iadd hC dL_law_824 (fun x48_ e48 => ?_)
    try have t48 : x48_.toInt = i.toInt + x47_.toInt := by rw [e48]; exact ti_add (by omega) (by omega)
    refine r_sld hC hXs hb hbA (by omega) (by omega) dL_law_825 (fun x49_ e49 => ?_)
    obtain rfl : x9_ = x49_ := sld_eq e9 e49 (by omega)
    refine r_aload_n hC dL_law_826 0 rfl ?_
    refine r_iload hC dL_law_827 4 rfl ?_
    refine r_iconst hC (v := (4)) dL_law_829 (by decide) (by decide) (fun x50_ e50 t50 => ?_)
    refine r_iadd hC dL_law_830 (fun x51_ e51 => ?_)
    try have t51 : x51_.toInt = i.toInt + x50_.toInt := by rw [e51]; exact ti_add (by omega) (by omega)
    refine r_sld hC hXs hb hbA (by omega) (by omega) dL_law_831 (fun x52_ e52 => ?_)
    obtain rfl : x12_ = x52_ := sld_eq e12 e52 (by omega)
    refine r_aload_n hC dL_law_832 0 rfl ?_
    refine r_iload hC dL_law_833 4 rfl ?_
    refine r_iconst hC (v := (5)) dL_law_835 (by decide) (by decide) (fun x53_ e53 t53 => ?_)
    refine r_iadd hC dL_law_836 (fun x54_ e54 => ?_)
    try have t54 : x54_.toInt = i.toInt + x53_.toInt := by rw [e54]; exact ti_add (by omega) (by omega)
    refine r_sld hC hXs hb hbA (by omega) (by omega) dL_law_837 (fun x55_ e55 => ?_)
    obtain rfl : x15_ = x55_ := sld_eq e15 e55 (by omega)
    refine r_if_eq hC (tgt := 845) dL_law_838 (by decide) (fun c56 => ?_) (fun c56 => ?_)
    · refine r_iconst hC (v := (0)) dL_law_845 (by decide) (by decide) (fun x57_ e57 t57 => ?_)
      refine r_callV hC (As := [.int x3_, .int x6_, .int x9_, .int x12_, .int x57_]) (rest := []) (ci := 10) (c_X10_span g (xL X) K len I40 J R hs40 m km x3_ x6_ x9_ x12_ x57_) mT_7_11 mT_1_10 mT_7_8 mT_7_9 mT_7_10 okX10_span ⟨by decide, by decide⟩ rfl (by show kO (K m) = _; rw [km]; rfl) rfl rfl (Nat.le_of_ble_eq_true rfl) ⟨by show cn + 0 ≤ 601024; omega, by show sn + 0 ≤ 7293034; omega⟩ dL_law_846 (aI1 (F := fun st M => P g X 7 849 [(0, .ref b), (1, .ref x), (2, .ref m), (3, .ref o), (4, .int i)] st _ _ M) (M := (K, len, I40, J, R)) fun x58_ I58 h58 => ?_)
      obtain ⟨hs58, hf58, k58_0⟩ := h58
      show P g X 7 849 [(0, .ref b), (1, .ref x), (2, .ref m), (3, .ref o), (4, .int i)] [.int x58_] cn sn (K, len, I58, J, R)
      refine r_pop hC dL_law_849 rfl ?_
      refine r_goto hC (tgt := 1253) dL_law_850 (by decide) ?_
      refine r_sub [0, 1, 2, 3, 4] rfl ?_
      refine r_widen hC (k2 := cn + 18) (n2 := sn + 231) (by omega) (by omega) ?_
      exact kk K len I58 J R (hI.ref hs58 hf40 hf58 rfl rfl rfl rfl rfl rfl rfl k40_0 k58_0)
    · refine r_iconst hC (v := (1)) dL_law_841 (by decide) (by decide) (fun x59_ e59 t59 => ?_)
      refine r_goto hC (tgt := 846) dL_law_842 (by decide) ?_
      refine r_callV hC (As := [.int x3_, .int x6_, .int x9_, .int x12_, .int x59_]) (rest := []) (ci := 10) (c_X10_span g (xL X) K len I40 J R hs40 m km x3_ x6_ x9_ x12_ x59_) mT_7_11 mT_1_10 mT_7_8 mT_7_9 mT_7_10 okX10_span ⟨by decide, by decide⟩ rfl (by show kO (K m) = _; rw [km]; rfl) rfl rfl (Nat.le_of_ble_eq_true rfl) ⟨by show cn + 0 ≤ 601024; omega, by show sn + 0 ≤ 7293034; omega⟩ dL_law_846 (aI1 (F := fun st M => P g X 7 849 [(0, .ref b), (1, .ref x), (2, .ref m), (3, .ref o), (4, .int i)] st _ _ M) (M := (K, len, I40, J, R)) fun x60_ I60 h60 => ?_)
      obtain ⟨hs60, hf60, k60_0⟩ := h60
      show P g X 7 849 [(0, .ref b), (1, .ref x), (2, .ref m), (3, .ref o), (4, .int i)] [.int x60_] cn sn (K, len, I60, J, R)
      refine r_pop hC dL_law_849 rfl ?_
      refine r_goto hC (tgt := 1253) dL_law_850 (by decide) ?_
      refine r_sub [0, 1, 2, 3, 4] rfl ?_
      refine r_widen hC (k2 := cn + 18) (n2 := sn + 231) (by omega) (by omega) ?_
      exact kk K len I60 J R (hI.ref hs60 hf40 hf60 rfl rfl rfl rfl rfl rfl rfl k40_0 k60_0)
set_option maxHeartbeats 4000000 in
set_option maxRecDepth 100000 in
theorem law_21 {g : GG} {X : XT} {b L : Nat} {xs : Nat → Int32} (hX : LX g X b L xs) {x m o tp bt te tk nr pr rd mt cn sn : Nat} {i : Int32} {K len : Nat → Nat} {I : Nat → Nat → Int32} {J : Nat → Nat → Int64} {R : Nat → Nat → Option Nat} (hI : LI x m o tp bt te tk nr pr rd mt K len I R) (hi : 0 ≤ i.toInt) (hiL : i.toInt + 6 ≤ L) (hcn : cn + 18 ≤ 601024) (hsn : sn + 231 ≤ 7293034) (kk : ∀ K' len' I' J' R', LI x m o tp bt te tk nr pr rd mt K' len' I' R' → P g X 7 1253 [(0, .ref b), (1, .ref x), (2, .ref m), (3, .ref o), (4, .int i)] [] (cn + 18) (sn + 231) (K', len', I', J', R')) : P g X 7 853 [(0, .ref b), (1, .ref x), (2, .ref m), (3, .ref o), (4, .int i)] [] cn sn (K, len, I, J, R) := by
  obtain ⟨hC, hcs, hl, hXs, hb, hbA, hL⟩ := hX
  obtain ⟨hs, la, ⟨h, s, lk, ls, lh, lr, lc⟩, lb, lv⟩ := id hI
  obtain ⟨hu, DA, rwd, scd, lcm⟩ := id lc
  obtain ⟨sd1, sd2, sd3, sd4, sd5, sd7, sd8, sd9⟩ := id scd
  obtain ⟨kx, km, ⟨ko, no⟩, ⟨htp, ktp⟩, ⟨hbb, kbt, nbt⟩, ⟨hte, kte⟩, ⟨htk, ktk⟩, hbt, ⟨hnr, knr, lnr⟩, ⟨hpr, kpr, lpr⟩, ⟨hrd, krd⟩, ⟨hmt, kmt, nmt⟩⟩ := id la
  obtain ⟨⟨hh, kh⟩, ⟨hs2, ks⟩, ⟨hlk2, klk⟩, ⟨hls, kls⟩, nhs, nls⟩ := id lh
  obtain ⟨lv1, lv2, lv3, lv4⟩ := id lv
  obtain ⟨lw, hlw, klw, llw⟩ := hs.row kx 4 41 60 (by decide) (by decide)
  obtain ⟨kn, hkn, kkn, lkn⟩ := hs.row kx 6 43 6 (by decide) (by decide)
  obtain ⟨tl, htl, ktl, ltl⟩ := hs.row kx 7 41 60 (by decide) (by decide)
  obtain ⟨lrw, hlrw, klrw, llrw⟩ := hs.row km 15 85 60 (by decide) (by decide)
  have nlt : lw ≠ tl := hu.ne hlw htl (by rw [klw]; decide) (Or.inr (by decide))
  refine r_aload_n hC dL_law_853 1 rfl ?_
  refine r_aload_n hC dL_law_854 0 rfl ?_
  refine r_iload hC dL_law_855 4 rfl ?_
  refine r_iconst hC (v := (1)) dL_law_857 (by decide) (by decide) (fun x1_ e1 t1 => ?_)
  refine r_iadd hC dL_law_858 (fun x2_ e2 => ?_)
  try have t2 : x2_.toInt = i.toInt + x1_.toInt := by rw [e2]; exact ti_add (by omega) (by omega)
  refine r_sld hC hXs hb hbA (by omega) (by omega) dL_law_859 (fun x3_ e3 => ?_)
  refine r_aload_n hC dL_law_860 0 rfl ?_
  refine r_iload hC dL_law_861 4 rfl ?_
  refine r_iconst hC (v := (2)) dL_law_863 (by decide) (by decide) (fun x4_ e4 t4 => ?_)
  refine r_iadd hC dL_law_864 (fun x5_ e5 => ?_)
  try have t5 : x5_.toInt = i.toInt + x4_.toInt := by rw [e5]; exact ti_add (by omega) (by omega)
  refine r_sld hC hXs hb hbA (by omega) (by omega) dL_law_865 (fun x6_ e6 => ?_)
  refine r_callV hC (As := [.int x3_, .int x6_]) (rest := []) (ci := 8) (o_X8_helps g (xL X) K len I J R hs x kx x3_ x6_ tl htl ktl ltl) mT_4_70 mT_1_1 mT_4_67 mT_4_68 mT_4_69 okX8_helps ⟨by decide, by decide⟩ rfl (by show kO (K x) = _; rw [kx]; rfl) rfl rfl (Nat.le_of_ble_eq_true rfl) ⟨by show cn + 0 ≤ 601024; omega, by show sn + 0 ≤ 7293034; omega⟩ dL_law_866 (aI1 (F := fun st M => P g X 7 869 [(0, .ref b), (1, .ref x), (2, .ref m), (3, .ref o), (4, .int i)] st _ _ M) (M := (K, len, I, J, R)) fun x7_ I7 h7 => ?_)
  obtain ⟨hs7, hf7, k7_0, k7_1⟩ := h7
  show P g X 7 869 [(0, .ref b), (1, .ref x), (2, .ref m), (3, .ref o), (4, .int i)] [.int x7_] cn sn (K, len, I7, J, R)
  refine r_pop hC dL_law_869 rfl ?_
  refine r_aload_n hC dL_law_870 2 rfl ?_
  refine r_aload_n hC dL_law_871 0 rfl ?_
  refine r_iload hC dL_law_872 4 rfl ?_
  refine r_iconst hC (v := (1)) dL_law_874 (by decide) (by decide) (fun x8_ e8 t8 => ?_)
  refine r_iadd hC dL_law_875 (fun x9_ e9 => ?_)
  try have t9 : x9_.toInt = i.toInt + x8_.toInt := by rw [e9]; exact ti_add (by omega) (by omega)
  refine r_sld hC hXs hb hbA (by omega) (by omega) dL_law_876 (fun x10_ e10 => ?_)
  obtain rfl : x3_ = x10_ := sld_eq e3 e10 (by omega)
  refine r_aload_n hC dL_law_877 0 rfl ?_
  refine r_iload hC dL_law_878 4 rfl ?_
  refine r_iconst hC (v := (2)) dL_law_880 (by decide) (by decide) (fun x11_ e11 t11 => ?_)
  refine r_iadd hC dL_law_881 (fun x12_ e12 => ?_)
  try have t12 : x12_.toInt = i.toInt + x11_.toInt := by rw [e12]; exact ti_add (by omega) (by omega)
  refine r_sld hC hXs hb hbA (by omega) (by omega) dL_law_882 (fun x13_ e13 => ?_)
  obtain rfl : x6_ = x13_ := sld_eq e6 e13 (by omega)
  refine r_callV hC (As := [.int x3_, .int x6_]) (rest := []) (ci := 10) (c_X10_helps g (xL X) K len I7 J R hs7 m km x3_ x6_) mT_7_15 mT_1_10 mT_7_12 mT_7_13 mT_7_14 okX10_helps ⟨by decide, by decide⟩ rfl (by show kO (K m) = _; rw [km]; rfl) rfl rfl (Nat.le_of_ble_eq_true rfl) ⟨by show cn + 0 ≤ 601024; omega, by show sn + 0 ≤ 7293034; omega⟩ dL_law_883 (aI1 (F := fun st M => P g X 7 886 [(0, .ref b), (1, .ref x), (2, .ref m), (3, .ref o), (4, .int i)] st _ _ M) (M := (K, len, I7, J, R)) fun x14_ I14 h14 => ?_)
  obtain ⟨hs14, hf14, k14_0⟩ := h14
  show P g X 7 886 [(0, .ref b), (1, .ref x), (2, .ref m), (3, .ref o), (4, .int i)] [.int x14_] cn sn (K, len, I14, J, R)
  have lbv := LBV.ref la lb lv hf7 hf14 rfl rfl rfl k7_1 k14_0
  have lcn := (lc.mvT hs hf7 kh klk rfl (fun l2 zl j => by rw [hlw] at zl; cases zl; exact k7_0 lw j klw nlt)).mv hs kx hf14 kh klk rfl
  refine r_pop hC dL_law_886 rfl ?_
  refine r_goto hC (tgt := 1253) dL_law_887 (by decide) ?_
  refine r_sub [0, 1, 2, 3, 4] rfl ?_
  refine r_widen hC (k2 := cn + 18) (n2 := sn + 231) (Nat.le_add_right _ _) (Nat.le_add_right _ _) ?_
  exact kk K len I14 J R ⟨hs14, la, ⟨h, s, lk, ls, lh, (lr.mv hf7 kh klk krd km rfl).mv hf14 kh klk krd km rfl, lcn⟩, lbv⟩
set_option maxHeartbeats 4000000 in
set_option maxRecDepth 100000 in
theorem law_22 {g : GG} {X : XT} {b L : Nat} {xs : Nat → Int32} (hX : LX g X b L xs) {x m o tp bt te tk nr pr rd mt cn sn : Nat} {i : Int32} {K len : Nat → Nat} {I : Nat → Nat → Int32} {J : Nat → Nat → Int64} {R : Nat → Nat → Option Nat} (hI : LI x m o tp bt te tk nr pr rd mt K len I R) (hi : 0 ≤ i.toInt) (hiL : i.toInt + 6 ≤ L) (hcn : cn + 18 ≤ 601024) (hsn : sn + 231 ≤ 7293034) (kk : ∀ K' len' I' J' R', LI x m o tp bt te tk nr pr rd mt K' len' I' R' → P g X 7 1253 [(0, .ref b), (1, .ref x), (2, .ref m), (3, .ref o), (4, .int i)] [] (cn + 18) (sn + 231) (K', len', I', J', R')) : P g X 7 890 [(0, .ref b), (1, .ref x), (2, .ref m), (3, .ref o), (4, .int i)] [] cn sn (K, len, I, J, R) := by
  obtain ⟨hC, hcs, hl, hXs, hb, hbA, hL⟩ := hX
  obtain ⟨hs, la, ⟨h, s, lk, ls, lh, lr, lc⟩, lb, lv⟩ := id hI
  obtain ⟨hu, DA, rwd, scd, lcm⟩ := id lc
  obtain ⟨sd1, sd2, sd3, sd4, sd5, sd7, sd8, sd9⟩ := id scd
  obtain ⟨kx, km, ⟨ko, no⟩, ⟨htp, ktp⟩, ⟨hbb, kbt, nbt⟩, ⟨hte, kte⟩, ⟨htk, ktk⟩, hbt, ⟨hnr, knr, lnr⟩, ⟨hpr, kpr, lpr⟩, ⟨hrd, krd⟩, ⟨hmt, kmt, nmt⟩⟩ := id la
  obtain ⟨⟨hh, kh⟩, ⟨hs2, ks⟩, ⟨hlk2, klk⟩, ⟨hls, kls⟩, nhs, nls⟩ := id lh
  obtain ⟨lv1, lv2, lv3, lv4⟩ := id lv
  obtain ⟨lw, hlw, klw, llw⟩ := hs.row kx 4 41 60 (by decide) (by decide)
  obtain ⟨kn, hkn, kkn, lkn⟩ := hs.row kx 6 43 6 (by decide) (by decide)
  obtain ⟨tl, htl, ktl, ltl⟩ := hs.row kx 7 41 60 (by decide) (by decide)
  obtain ⟨lrw, hlrw, klrw, llrw⟩ := hs.row km 15 85 60 (by decide) (by decide)
  have nlt : lw ≠ tl := hu.ne hlw htl (by rw [klw]; decide) (Or.inr (by decide))
  refine r_aload_n hC dL_law_890 1 rfl ?_
  refine r_aload_n hC dL_law_891 0 rfl ?_
  refine r_iload hC dL_law_892 4 rfl ?_
  refine r_iconst hC (v := (1)) dL_law_894 (by decide) (by decide) (fun x1_ e1 t1 => ?_)
  refine r_iadd hC dL_law_895 (fun x2_ e2 => ?_)
  try have t2 : x2_.toInt = i.toInt + x1_.toInt := by rw [e2]; exact ti_add (by omega) (by omega)
  refine r_sld hC hXs hb hbA (by omega) (by omega) dL_law_896 (fun x3_ e3 => ?_)
  refine r_callV hC (As := [.int x3_]) (rest := []) (ci := 8) (o_X8_last g (xL X) K len I J R hs x kx x3_ tl htl ktl ltl) mT_4_78 mT_1_1 mT_4_75 mT_4_76 mT_4_77 okX8_last ⟨by decide, by decide⟩ rfl (by show kO (K x) = _; rw [kx]; rfl) rfl rfl (Nat.le_of_ble_eq_true rfl) ⟨by show cn + 0 ≤ 601024; omega, by show sn + 0 ≤ 7293034; omega⟩ dL_law_897 (aI1 (F := fun st M => P g X 7 900 [(0, .ref b), (1, .ref x), (2, .ref m), (3, .ref o), (4, .int i)] st _ _ M) (M := (K, len, I, J, R)) fun x4_ I4 h4 => ?_)
  obtain ⟨hs4, hf4, k4_0, k4_1⟩ := h4
  show P g X 7 900 [(0, .ref b), (1, .ref x), (2, .ref m), (3, .ref o), (4, .int i)] [.int x4_] cn sn (K, len, I4, J, R)
  refine r_pop hC dL_law_900 rfl ?_
  refine r_aload_n hC dL_law_901 2 rfl ?_
  refine r_aload_n hC dL_law_902 0 rfl ?_
  refine r_iload hC dL_law_903 4 rfl ?_
  refine r_iconst hC (v := (1)) dL_law_905 (by decide) (by decide) (fun x5_ e5 t5 => ?_)
  refine r_iadd hC dL_law_906 (fun x6_ e6 => ?_)
  try have t6 : x6_.toInt = i.toInt + x5_.toInt := by rw [e6]; exact ti_add (by omega) (by omega)
  refine r_sld hC hXs hb hbA (by omega) (by omega) dL_law_907 (fun x7_ e7 => ?_)
  obtain rfl : x3_ = x7_ := sld_eq e3 e7 (by omega)
  refine r_callV hC (As := [.int x3_]) (rest := []) (ci := 10) (c_X10_last g (xL X) K len I4 J R hs4 m km x3_) mT_7_23 mT_1_10 mT_7_20 mT_7_21 mT_7_22 okX10_last ⟨by decide, by decide⟩ rfl (by show kO (K m) = _; rw [km]; rfl) rfl rfl (Nat.le_of_ble_eq_true rfl) ⟨by show cn + 0 ≤ 601024; omega, by show sn + 0 ≤ 7293034; omega⟩ dL_law_908 (aI1 (F := fun st M => P g X 7 911 [(0, .ref b), (1, .ref x), (2, .ref m), (3, .ref o), (4, .int i)] st _ _ M) (M := (K, len, I4, J, R)) fun x8_ I8 h8 => ?_)
  obtain ⟨hs8, hf8, k8_0⟩ := h8
  show P g X 7 911 [(0, .ref b), (1, .ref x), (2, .ref m), (3, .ref o), (4, .int i)] [.int x8_] cn sn (K, len, I8, J, R)
  have lbv := LBV.ref la lb lv hf4 hf8 rfl rfl rfl k4_1 k8_0
  have lcn := (lc.mvT hs hf4 kh klk rfl (fun l2 zl j => by rw [hlw] at zl; cases zl; exact k4_0 lw j klw nlt)).mv hs kx hf8 kh klk rfl
  refine r_pop hC dL_law_911 rfl ?_
  refine r_goto hC (tgt := 1253) dL_law_912 (by decide) ?_
  refine r_sub [0, 1, 2, 3, 4] rfl ?_
  refine r_widen hC (k2 := cn + 18) (n2 := sn + 231) (Nat.le_add_right _ _) (Nat.le_add_right _ _) ?_
  exact kk K len I8 J R ⟨hs8, la, ⟨h, s, lk, ls, lh, (lr.mv hf4 kh klk krd km rfl).mv hf8 kh klk krd km rfl, lcn⟩, lbv⟩
set_option maxHeartbeats 4000000 in
set_option maxRecDepth 100000 in
theorem law_23 {g : GG} {X : XT} {b L : Nat} {xs : Nat → Int32} (hX : LX g X b L xs) {x m o tp bt te tk nr pr rd mt cn sn : Nat} {i : Int32} {K len : Nat → Nat} {I : Nat → Nat → Int32} {J : Nat → Nat → Int64} {R : Nat → Nat → Option Nat} (hI : LI x m o tp bt te tk nr pr rd mt K len I R) (hi : 0 ≤ i.toInt) (hiL : i.toInt + 6 ≤ L) (hcn : cn + 18 ≤ 601024) (hsn : sn + 231 ≤ 7293034) (kk : ∀ K' len' I' J' R', LI x m o tp bt te tk nr pr rd mt K' len' I' R' → P g X 7 1253 [(0, .ref b), (1, .ref x), (2, .ref m), (3, .ref o), (4, .int i)] [] (cn + 18) (sn + 231) (K', len', I', J', R')) : P g X 7 915 [(0, .ref b), (1, .ref x), (2, .ref m), (3, .ref o), (4, .int i)] [] cn sn (K, len, I, J, R) := by
  obtain ⟨hC, hcs, hl, hXs, hb, hbA, hL⟩ := hX
  obtain ⟨hs, la, ⟨h, s, lk, ls, lh, lr, lc⟩, lb, lv⟩ := id hI
  obtain ⟨hu, DA, rwd, scd, lcm⟩ := id lc
  obtain ⟨sd1, sd2, sd3, sd4, sd5, sd7, sd8, sd9⟩ := id scd
  obtain ⟨kx, km, ⟨ko, no⟩, ⟨htp, ktp⟩, ⟨hbb, kbt, nbt⟩, ⟨hte, kte⟩, ⟨htk, ktk⟩, hbt, ⟨hnr, knr, lnr⟩, ⟨hpr, kpr, lpr⟩, ⟨hrd, krd⟩, ⟨hmt, kmt, nmt⟩⟩ := id la
  obtain ⟨⟨hh, kh⟩, ⟨hs2, ks⟩, ⟨hlk2, klk⟩, ⟨hls, kls⟩, nhs, nls⟩ := id lh
  obtain ⟨lv1, lv2, lv3, lv4⟩ := id lv
  obtain ⟨lw, hlw, klw, llw⟩ := hs.row kx 4 41 60 (by decide) (by decide)
  obtain ⟨kn, hkn, kkn, lkn⟩ := hs.row kx 6 43 6 (by decide) (by decide)
  obtain ⟨tl, htl, ktl, ltl⟩ := hs.row kx 7 41 60 (by decide) (by decide)
  obtain ⟨lrw, hlrw, klrw, llrw⟩ := hs.row km 15 85 60 (by decide) (by decide)
  have nlt : lw ≠ tl := hu.ne hlw htl (by rw [klw]; decide) (Or.inr (by decide))
  refine r_aload_n hC dL_law_915 1 rfl ?_
  refine r_aload_n hC dL_law_916 0 rfl ?_
  refine r_iload hC dL_law_917 4 rfl ?_
  refine r_iconst hC (v := (1)) dL_law_919 (by decide) (by decide) (fun x1_ e1 t1 => ?_)
  refine r_iadd hC dL_law_920 (fun x2_ e2 => ?_)
  try have t2 : x2_.toInt = i.toInt + x1_.toInt := by rw [e2]; exact ti_add (by omega) (by omega)
  refine r_sld hC hXs hb hbA (by omega) (by omega) dL_law_921 (fun x3_ e3 => ?_)
  refine r_callV hC (As := [.int x3_]) (rest := []) (ci := 8) (o_X8_safe g (xL X) K len I J R hs x kx x3_ tl htl ktl ltl) mT_4_82 mT_1_1 mT_4_79 mT_4_80 mT_4_81 okX8_safe ⟨by decide, by decide⟩ rfl (by show kO (K x) = _; rw [kx]; rfl) rfl rfl (Nat.le_of_ble_eq_true rfl) ⟨by show cn + 0 ≤ 601024; omega, by show sn + 0 ≤ 7293034; omega⟩ dL_law_922 (aI1 (F := fun st M => P g X 7 925 [(0, .ref b), (1, .ref x), (2, .ref m), (3, .ref o), (4, .int i)] st _ _ M) (M := (K, len, I, J, R)) fun x4_ I4 h4 => ?_)
  obtain ⟨hs4, hf4, k4_0, k4_1⟩ := h4
  show P g X 7 925 [(0, .ref b), (1, .ref x), (2, .ref m), (3, .ref o), (4, .int i)] [.int x4_] cn sn (K, len, I4, J, R)
  refine r_pop hC dL_law_925 rfl ?_
  refine r_aload_n hC dL_law_926 2 rfl ?_
  refine r_aload_n hC dL_law_927 0 rfl ?_
  refine r_iload hC dL_law_928 4 rfl ?_
  refine r_iconst hC (v := (1)) dL_law_930 (by decide) (by decide) (fun x5_ e5 t5 => ?_)
  refine r_iadd hC dL_law_931 (fun x6_ e6 => ?_)
  try have t6 : x6_.toInt = i.toInt + x5_.toInt := by rw [e6]; exact ti_add (by omega) (by omega)
  refine r_sld hC hXs hb hbA (by omega) (by omega) dL_law_932 (fun x7_ e7 => ?_)
  obtain rfl : x3_ = x7_ := sld_eq e3 e7 (by omega)
  refine r_callV hC (As := [.int x3_]) (rest := []) (ci := 10) (c_X10_safe g (xL X) K len I4 J R hs4 m km x3_) mT_7_27 mT_1_10 mT_7_24 mT_7_25 mT_7_26 okX10_safe ⟨by decide, by decide⟩ rfl (by show kO (K m) = _; rw [km]; rfl) rfl rfl (Nat.le_of_ble_eq_true rfl) ⟨by show cn + 0 ≤ 601024; omega, by show sn + 0 ≤ 7293034; omega⟩ dL_law_933 (aI1 (F := fun st M => P g X 7 936 [(0, .ref b), (1, .ref x), (2, .ref m), (3, .ref o), (4, .int i)] st _ _ M) (M := (K, len, I4, J, R)) fun x8_ I8 h8 => ?_)
  obtain ⟨hs8, hf8, k8_0⟩ := h8
  show P g X 7 936 [(0, .ref b), (1, .ref x), (2, .ref m), (3, .ref o), (4, .int i)] [.int x8_] cn sn (K, len, I8, J, R)
  have lbv := LBV.ref la lb lv hf4 hf8 rfl rfl rfl k4_1 k8_0
  have lcn := (lc.mvT hs hf4 kh klk rfl (fun l2 zl j => by rw [hlw] at zl; cases zl; exact k4_0 lw j klw nlt)).mv hs kx hf8 kh klk rfl
  refine r_pop hC dL_law_936 rfl ?_
  refine r_goto hC (tgt := 1253) dL_law_937 (by decide) ?_
  refine r_sub [0, 1, 2, 3, 4] rfl ?_
  refine r_widen hC (k2 := cn + 18) (n2 := sn + 231) (Nat.le_add_right _ _) (Nat.le_add_right _ _) ?_
  exact kk K len I8 J R ⟨hs8, la, ⟨h, s, lk, ls, lh, (lr.mv hf4 kh klk krd km rfl).mv hf8 kh klk krd km rfl, lcn⟩, lbv⟩
set_option maxHeartbeats 4000000 in
set_option maxRecDepth 100000 in
theorem law_24 {g : GG} {X : XT} {b L : Nat} {xs : Nat → Int32} (hX : LX g X b L xs) {x m o tp bt te tk nr pr rd mt cn sn : Nat} {i : Int32} {K len : Nat → Nat} {I : Nat → Nat → Int32} {J : Nat → Nat → Int64} {R : Nat → Nat → Option Nat} (hI : LI x m o tp bt te tk nr pr rd mt K len I R) (hi : 0 ≤ i.toInt) (hiL : i.toInt + 6 ≤ L) (hcn : cn + 18 ≤ 601024) (hsn : sn + 231 ≤ 7293034) (kk : ∀ K' len' I' J' R', LI x m o tp bt te tk nr pr rd mt K' len' I' R' → P g X 7 1253 [(0, .ref b), (1, .ref x), (2, .ref m), (3, .ref o), (4, .int i)] [] (cn + 18) (sn + 231) (K', len', I', J', R')) : P g X 7 940 [(0, .ref b), (1, .ref x), (2, .ref m), (3, .ref o), (4, .int i)] [] cn sn (K, len, I, J, R) := by
  obtain ⟨hC, hcs, hl, hXs, hb, hbA, hL⟩ := hX
  obtain ⟨hs, la, ⟨h, s, lk, ls, lh, lr, lc⟩, lb, lv⟩ := id hI
  obtain ⟨hu, DA, rwd, scd, lcm⟩ := id lc
  obtain ⟨sd1, sd2, sd3, sd4, sd5, sd7, sd8, sd9⟩ := id scd
  obtain ⟨kx, km, ⟨ko, no⟩, ⟨htp, ktp⟩, ⟨hbb, kbt, nbt⟩, ⟨hte, kte⟩, ⟨htk, ktk⟩, hbt, ⟨hnr, knr, lnr⟩, ⟨hpr, kpr, lpr⟩, ⟨hrd, krd⟩, ⟨hmt, kmt, nmt⟩⟩ := id la
  obtain ⟨⟨hh, kh⟩, ⟨hs2, ks⟩, ⟨hlk2, klk⟩, ⟨hls, kls⟩, nhs, nls⟩ := id lh
  obtain ⟨lv1, lv2, lv3, lv4⟩ := id lv
  obtain ⟨lw, hlw, klw, llw⟩ := hs.row kx 4 41 60 (by decide) (by decide)
  obtain ⟨kn, hkn, kkn, lkn⟩ := hs.row kx 6 43 6 (by decide) (by decide)
  obtain ⟨tl, htl, ktl, ltl⟩ := hs.row kx 7 41 60 (by decide) (by decide)
  obtain ⟨lrw, hlrw, klrw, llrw⟩ := hs.row km 15 85 60 (by decide) (by decide)
  have nlt : lw ≠ tl := hu.ne hlw htl (by rw [klw]; decide) (Or.inr (by decide))
  refine r_aload_n hC dL_law_940 1 rfl ?_
  refine r_aload_n hC dL_law_941 0 rfl ?_
  refine r_iload hC dL_law_942 4 rfl ?_
  refine r_iconst hC (v := (1)) dL_law_944 (by decide) (by decide) (fun x1_ e1 t1 => ?_)
  refine r_iadd hC dL_law_945 (fun x2_ e2 => ?_)
  try have t2 : x2_.toInt = i.toInt + x1_.toInt := by rw [e2]; exact ti_add (by omega) (by omega)
  refine r_sld hC hXs hb hbA (by omega) (by omega) dL_law_946 (fun x3_ e3 => ?_)
  refine r_aload_n hC dL_law_947 0 rfl ?_
  refine r_iload hC dL_law_948 4 rfl ?_
  refine r_iconst hC (v := (2)) dL_law_950 (by decide) (by decide) (fun x4_ e4 t4 => ?_)
  refine r_iadd hC dL_law_951 (fun x5_ e5 => ?_)
  try have t5 : x5_.toInt = i.toInt + x4_.toInt := by rw [e5]; exact ti_add (by omega) (by omega)
  refine r_sld hC hXs hb hbA (by omega) (by omega) dL_law_952 (fun x6_ e6 => ?_)
  refine r_callV hC (As := [.int x3_, .int x6_]) (rest := []) (ci := 8) (f_X8_found g (xL X) K len I J R hs x kx x3_ x6_ h hh kh lk hlk2 klk DA rwd sd7) mT_4_94 mT_1_1 mT_4_91 mT_4_92 mT_4_93 okX8_found ⟨by decide, by decide⟩ rfl (by show kO (K x) = _; rw [kx]; rfl) rfl rfl (Nat.le_of_ble_eq_true rfl) ⟨by show cn + 0 ≤ 601024; omega, by show sn + 0 ≤ 7293034; omega⟩ dL_law_953 (aI1 (F := fun st M => P g X 7 956 [(0, .ref b), (1, .ref x), (2, .ref m), (3, .ref o), (4, .int i)] st _ _ M) (M := (K, len, I, J, R)) fun x7_ I7 h7 => ?_)
  obtain ⟨hs7, hf7, k7_0, k7_1⟩ := h7
  show P g X 7 956 [(0, .ref b), (1, .ref x), (2, .ref m), (3, .ref o), (4, .int i)] [.int x7_] cn sn (K, len, I7, J, R)
  refine r_aload_n hC dL_law_956 2 rfl ?_
  refine r_aload_n hC dL_law_957 0 rfl ?_
  refine r_iload hC dL_law_958 4 rfl ?_
  refine r_iconst hC (v := (1)) dL_law_960 (by decide) (by decide) (fun x8_ e8 t8 => ?_)
  refine r_iadd hC dL_law_961 (fun x9_ e9 => ?_)
  try have t9 : x9_.toInt = i.toInt + x8_.toInt := by rw [e9]; exact ti_add (by omega) (by omega)
  refine r_sld hC hXs hb hbA (by omega) (by omega) dL_law_962 (fun x10_ e10 => ?_)
  obtain rfl : x3_ = x10_ := sld_eq e3 e10 (by omega)
  refine r_aload_n hC dL_law_963 0 rfl ?_
  refine r_iload hC dL_law_964 4 rfl ?_
  refine r_iconst hC (v := (2)) dL_law_966 (by decide) (by decide) (fun x11_ e11 t11 => ?_)
  refine r_iadd hC dL_law_967 (fun x12_ e12 => ?_)
  try have t12 : x12_.toInt = i.toInt + x11_.toInt := by rw [e12]; exact ti_add (by omega) (by omega)
  refine r_sld hC hXs hb hbA (by omega) (by omega) dL_law_968 (fun x13_ e13 => ?_)
  obtain rfl : x6_ = x13_ := sld_eq e6 e13 (by omega)
  refine r_callV hC (As := [.int x3_, .int x6_]) (rest := [.int x7_]) (ci := 10) (f_X10_found g (xL X) K len I7 J R hs7 m km x3_ x6_ DA (fun hm z => by obtain ⟨z1, z2, z3, z4, z5⟩ := lcm hm z; exact ⟨z3.mv (CM_x hs z1) qM_big hf7 rfl, by rw [hf7.get z1 rfl]; exact z4.2.2.2.2.2.1⟩)) mT_7_31 mT_1_10 mT_7_28 mT_7_29 mT_7_30 okX10_found ⟨by decide, by decide⟩ rfl (by show kO (K m) = _; rw [km]; rfl) rfl rfl (Nat.le_of_ble_eq_true rfl) ⟨by show cn + 0 ≤ 601024; omega, by show sn + 0 ≤ 7293034; omega⟩ dL_law_969 (aI1 (F := fun st M => P g X 7 972 [(0, .ref b), (1, .ref x), (2, .ref m), (3, .ref o), (4, .int i)] st _ _ M) (M := (K, len, I7, J, R)) fun x14_ I14 h14 => ?_)
  obtain ⟨hs14, hf14, k14_0, k14_1⟩ := h14
  show P g X 7 972 [(0, .ref b), (1, .ref x), (2, .ref m), (3, .ref o), (4, .int i)] [.int x14_, .int x7_] cn sn (K, len, I14, J, R)
  have eqv : x7_.toInt = x14_.toInt := by
    rcases k14_0 with ⟨z9, y9⟩ | ⟨hm9, z9, y9⟩
    · rcases lr.2 with ⟨r3, n1, n2, n3, n4, n5, n6, n7, n8, n9, nr0⟩ | ⟨hm, r3, khm, m0, m1, m2, m3, m4, m5, m6, m7, m8, m9⟩
      · rcases k7_0 with ⟨w1, w2⟩ | ⟨w1, w2⟩
        · exfalso; rw [← sd7, n3] at w1; omega
        · rw [w2, y9]
      · rw [r3] at z9; cases z9
    · exact eq_two k7_0 y9
  refine r_icmp_eq hC (tgt := 1253) dL_law_972 (by decide) (fun c => ?_) (fun c => ?_)
  rotate_left
  · exact absurd eqv c
  refine r_sub [0, 1, 2, 3, 4] rfl ?_
  refine r_widen hC (k2 := cn + 18) (n2 := sn + 231) (by omega) (by omega) ?_
  exact kk K len I14 J R (hI.ref hs14 hf7 hf14 rfl rfl rfl rfl rfl rfl rfl k7_1 k14_1)

