set_option maxHeartbeats 4000000 in
set_option maxRecDepth 100000 in
theorem law_20 {g : GG} {X : XT} {b L : Nat} {xs : Nat → Int32} (hX : LX g X b L xs) {x m o tp bt te tk nr pr rd mt cn sn : Nat} {i : Int32} {K len : Nat → Nat} {I : Nat → Nat → Int32} {J : Nat → Nat → Int64} {R : Nat → Nat → Option Nat} (hI : LI x m o tp bt te tk nr pr rd mt K len I R) (hi : 0 ≤ i.toInt) (hiL : i.toInt + 6 ≤ L) (hcn : cn + 18 ≤ 601024) (hsn : sn + 231 ≤ 7293034) (kk : ∀ K' len' I' J' R', LI x m o tp bt te tk nr pr rd mt K' len' I' R' → P g X 7 1253 [(0, .ref b), (1, .ref x), (2, .ref m), (3, .ref o), (4, .int i)] [] (cn + 18) (sn + 231) (K', len', I', J', R')) : P g X 7 764 [(0, .ref b), (1, .ref x), (2, .ref m), (3, .ref o), (4, .int i)] [] cn sn (K, len, I, J, R) := by
  obtain ⟨hC, hcs, hl, hXs, hb, hbA, hL⟩ := hX
  obtain ⟨hs, la, ⟨h, s, lk, ls, lh, lr, lc⟩, lb, lv⟩ := id hI
  obtain ⟨hu, DA, lcb, EA, kc, rdm⟩ := id lc
  obtain ⟨rwd, scd, lcm⟩ := id lcb
  obtain ⟨sd1, sd2, sd3, sd4, sd5, sd7, sd8, sd9⟩ := id scd
  obtain ⟨kx, km, ⟨ko, no⟩, ⟨htp, ktp⟩, ⟨hbb, kbt, nbt⟩, ⟨hte, kte⟩, ⟨htk, ktk⟩, hbt, ⟨hnr, knr, lnr⟩, ⟨hpr, kpr, lpr⟩, ⟨hrd, krd⟩, ⟨hmt, kmt, nmt⟩⟩ := id la
  obtain ⟨⟨hh, kh⟩, ⟨hs2, ks⟩, ⟨hlk2, klk⟩, ⟨hls, kls⟩, nhs, nls⟩ := id lh
  obtain ⟨lv1, lv2, lv3, lv4⟩ := id lv
  obtain ⟨lw, hlw, klw, llw⟩ := hs.row kx 4 41 60 (by decide) (by decide)
  obtain ⟨kn, hkn, kkn, lkn⟩ := hs.row kx 6 43 6 (by decide) (by decide)
  obtain ⟨cr, hcr, kcr1, lcr⟩ := hs.row kx 5 44 6 (by decide) (by decide)
  have ka : KA x h lk rd K len R := ⟨⟨_, hs⟩, hu, kx, kh, klk, krd⟩
  have rdb9 := hs.rng krd (k := 0) rfl (x := I rd 0) rfl
  obtain ⟨tl, htl, ktl, ltl⟩ := hs.row kx 7 41 60 (by decide) (by decide)
  obtain ⟨lrw, hlrw, klrw, llrw⟩ := hs.row km 15 85 60 (by decide) (by decide)
  have nlt : lw ≠ tl := hu.ne hlw htl (by rw [klw]; decide) (Or.inr (by decide))
  refine r_aload_n hC dL_law_764 1 rfl ?_
  refine r_aload_n hC dL_law_765 0 rfl ?_
  refine r_iload hC dL_law_766 4 rfl ?_
  refine r_iconst hC (v := (1)) dL_law_768 (by decide) (by decide) (fun x1_ e1 t1 => ?_)
  refine r_iadd hC dL_law_769 (fun x2_ e2 => ?_)
  have t2 : x2_.toInt = i.toInt + 1 := sAd e2 t1 (by decide) (by decide) hi hiL hL
  refine r_sld hC hXs hb hbA (sLo t2 (by decide) hi) (sHi t2 (by decide) hiL) dL_law_770 (fun x3_ e3 => ?_)
  refine r_aload_n hC dL_law_771 0 rfl ?_
  refine r_iload hC dL_law_772 4 rfl ?_
  refine r_iconst hC (v := (2)) dL_law_774 (by decide) (by decide) (fun x4_ e4 t4 => ?_)
  refine r_iadd hC dL_law_775 (fun x5_ e5 => ?_)
  have t5 : x5_.toInt = i.toInt + 2 := sAd e5 t4 (by decide) (by decide) hi hiL hL
  refine r_sld hC hXs hb hbA (sLo t5 (by decide) hi) (sHi t5 (by decide) hiL) dL_law_776 (fun x6_ e6 => ?_)
  refine r_aload_n hC dL_law_777 0 rfl ?_
  refine r_iload hC dL_law_778 4 rfl ?_
  refine r_iconst hC (v := (3)) dL_law_780 (by decide) (by decide) (fun x7_ e7 t7 => ?_)
  refine r_iadd hC dL_law_781 (fun x8_ e8 => ?_)
  have t8 : x8_.toInt = i.toInt + 3 := sAd e8 t7 (by decide) (by decide) hi hiL hL
  refine r_sld hC hXs hb hbA (sLo t8 (by decide) hi) (sHi t8 (by decide) hiL) dL_law_782 (fun x9_ e9 => ?_)
  refine r_aload_n hC dL_law_783 0 rfl ?_
  refine r_iload hC dL_law_784 4 rfl ?_
  refine r_iconst hC (v := (4)) dL_law_786 (by decide) (by decide) (fun x10_ e10 t10 => ?_)
  refine r_iadd hC dL_law_787 (fun x11_ e11 => ?_)
  have t11 : x11_.toInt = i.toInt + 4 := sAd e11 t10 (by decide) (by decide) hi hiL hL
  refine r_sld hC hXs hb hbA (sLo t11 (by decide) hi) (sHi t11 (by decide) hiL) dL_law_788 (fun x12_ e12 => ?_)
  refine r_aload_n hC dL_law_789 0 rfl ?_
  refine r_iload hC dL_law_790 4 rfl ?_
  refine r_iconst hC (v := (5)) dL_law_792 (by decide) (by decide) (fun x13_ e13 t13 => ?_)
  refine r_iadd hC dL_law_793 (fun x14_ e14 => ?_)
  have t14 : x14_.toInt = i.toInt + 5 := sAd e14 t13 (by decide) (by decide) hi hiL hL
  refine r_sld hC hXs hb hbA (sLo t14 (by decide) hi) (sHi t14 (by decide) hiL) dL_law_794 (fun x15_ e15 => ?_)
  refine r_if_eq hC (tgt := 802) dL_law_795 (by decide) (fun c16 => ?_) (fun c16 => ?_)
  · refine r_iconst hC (v := (0)) dL_law_802 (by decide) (by decide) (fun x17_ e17 t17 => ?_)
    refine r_callV hC (As := [.int x3_, .int x6_, .int x9_, .int x12_, .int x17_]) (rest := []) (ci := 8) (f_X8_span g (xL X) K len I J R hs x kx x3_ x6_ x9_ x12_ x17_ h hh kh lk hlk2 klk rd hrd krd lw hlw klw llw kn hkn kkn lkn cr hcr kcr1 lcr hu DA EA kc) mT_4_66 mT_1_1 mT_4_63 mT_4_64 mT_4_65 okX8_span ⟨by decide, by decide⟩ rfl (by show kO (K x) = _; rw [kx]; rfl) rfl rfl (Nat.le_of_ble_eq_true rfl) ⟨Nat.le_trans (show cn + 0 ≤ cn + 18 from Nat.add_le_add_left (by decide) cn) hcn, Nat.le_trans (show sn + 0 ≤ sn + 231 from Nat.add_le_add_left (by decide) sn) hsn⟩ dL_law_803 (aI1 (F := fun st M => P g X 7 806 [(0, .ref b), (1, .ref x), (2, .ref m), (3, .ref o), (4, .int i)] st _ _ M) (M := (K, len, I, J, R)) fun x18_ I18 h18 => ?_)
    obtain ⟨hs18, hf18, k18_0, k18_1⟩ := h18
    show P g X 7 806 [(0, .ref b), (1, .ref x), (2, .ref m), (3, .ref o), (4, .int i)] [.int x18_] cn sn (K, len, I18, J, R)
    refine r_pop hC dL_law_806 rfl ?_
    refine r_aload_n hC dL_law_807 2 rfl ?_
    refine r_aload_n hC dL_law_808 0 rfl ?_
    refine r_iload hC dL_law_809 4 rfl ?_
    refine r_iconst hC (v := (1)) dL_law_811 (by decide) (by decide) (fun x19_ e19 t19 => ?_)
    refine r_iadd hC dL_law_812 (fun x20_ e20 => ?_)
    have t20 : x20_.toInt = i.toInt + 1 := sAd e20 t19 (by decide) (by decide) hi hiL hL
    refine r_sld hC hXs hb hbA (sLo t20 (by decide) hi) (sHi t20 (by decide) hiL) dL_law_813 (fun x21_ e21 => ?_)
    obtain rfl : x3_ = x21_ := sld_eq e3 e21 (t2.trans t20.symm)
    refine r_aload_n hC dL_law_814 0 rfl ?_
    refine r_iload hC dL_law_815 4 rfl ?_
    refine r_iconst hC (v := (2)) dL_law_817 (by decide) (by decide) (fun x22_ e22 t22 => ?_)
    refine r_iadd hC dL_law_818 (fun x23_ e23 => ?_)
    have t23 : x23_.toInt = i.toInt + 2 := sAd e23 t22 (by decide) (by decide) hi hiL hL
    refine r_sld hC hXs hb hbA (sLo t23 (by decide) hi) (sHi t23 (by decide) hiL) dL_law_819 (fun x24_ e24 => ?_)
    obtain rfl : x6_ = x24_ := sld_eq e6 e24 (t5.trans t23.symm)
    refine r_aload_n hC dL_law_820 0 rfl ?_
    refine r_iload hC dL_law_821 4 rfl ?_
    refine r_iconst hC (v := (3)) dL_law_823 (by decide) (by decide) (fun x25_ e25 t25 => ?_)
    refine r_iadd hC dL_law_824 (fun x26_ e26 => ?_)
    have t26 : x26_.toInt = i.toInt + 3 := sAd e26 t25 (by decide) (by decide) hi hiL hL
    refine r_sld hC hXs hb hbA (sLo t26 (by decide) hi) (sHi t26 (by decide) hiL) dL_law_825 (fun x27_ e27 => ?_)
    obtain rfl : x9_ = x27_ := sld_eq e9 e27 (t8.trans t26.symm)
    refine r_aload_n hC dL_law_826 0 rfl ?_
    refine r_iload hC dL_law_827 4 rfl ?_
    refine r_iconst hC (v := (4)) dL_law_829 (by decide) (by decide) (fun x28_ e28 t28 => ?_)
    refine r_iadd hC dL_law_830 (fun x29_ e29 => ?_)
    have t29 : x29_.toInt = i.toInt + 4 := sAd e29 t28 (by decide) (by decide) hi hiL hL
    refine r_sld hC hXs hb hbA (sLo t29 (by decide) hi) (sHi t29 (by decide) hiL) dL_law_831 (fun x30_ e30 => ?_)
    obtain rfl : x12_ = x30_ := sld_eq e12 e30 (t11.trans t29.symm)
    refine r_aload_n hC dL_law_832 0 rfl ?_
    refine r_iload hC dL_law_833 4 rfl ?_
    refine r_iconst hC (v := (5)) dL_law_835 (by decide) (by decide) (fun x31_ e31 t31 => ?_)
    refine r_iadd hC dL_law_836 (fun x32_ e32 => ?_)
    have t32 : x32_.toInt = i.toInt + 5 := sAd e32 t31 (by decide) (by decide) hi hiL hL
    refine r_sld hC hXs hb hbA (sLo t32 (by decide) hi) (sHi t32 (by decide) hiL) dL_law_837 (fun x33_ e33 => ?_)
    obtain rfl : x15_ = x33_ := sld_eq e15 e33 (t14.trans t32.symm)
    refine r_if_eq hC (tgt := 845) dL_law_838 (by decide) (fun c34 => ?_) (fun c34 => ?_)
    · refine r_iconst hC (v := (0)) dL_law_845 (by decide) (by decide) (fun x35_ e35 t35 => ?_)
      refine r_callV hC (As := [.int x3_, .int x6_, .int x9_, .int x12_, .int x35_]) (rest := []) (ci := 10) (c_X10_span g (xL X) K len I18 J R hs18 m km x3_ x6_ x9_ x12_ x35_) mT_7_11 mT_1_10 mT_7_8 mT_7_9 mT_7_10 okX10_span ⟨by decide, by decide⟩ rfl (by show kO (K m) = _; rw [km]; rfl) rfl rfl (Nat.le_of_ble_eq_true rfl) ⟨Nat.le_trans (show cn + 0 ≤ cn + 18 from Nat.add_le_add_left (by decide) cn) hcn, Nat.le_trans (show sn + 0 ≤ sn + 231 from Nat.add_le_add_left (by decide) sn) hsn⟩ dL_law_846 (aI1 (F := fun st M => P g X 7 849 [(0, .ref b), (1, .ref x), (2, .ref m), (3, .ref o), (4, .int i)] st _ _ M) (M := (K, len, I18, J, R)) fun x36_ I36 h36 => ?_)
      obtain ⟨hs36, hf36, k36_0⟩ := h36
      show P g X 7 849 [(0, .ref b), (1, .ref x), (2, .ref m), (3, .ref o), (4, .int i)] [.int x36_] cn sn (K, len, I36, J, R)
      have lbv := LBV.ref la lb lv hf18 hf36 rfl rfl rfl k18_1 k36_0
      have lcn := LC.two hu lcb rdm lr hs kx km krd kh klk hf18 hf36 k18_0 rfl rfl rfl
      refine r_pop hC dL_law_849 rfl ?_
      refine r_goto hC (tgt := 1253) dL_law_850 (by decide) ?_
      refine r_sub [0, 1, 2, 3, 4] rfl ?_
      refine r_widen hC (k2 := cn + 18) (n2 := sn + 231) (Nat.le_add_right _ _) (Nat.le_add_right _ _) ?_
      exact kk K len I36 J R ⟨hs36, la, ⟨h, s, lk, ls, lh, (lr.mv hf18 kh klk krd km rfl).mv hf36 kh klk krd km rfl, lcn⟩, lbv⟩
    · refine r_iconst hC (v := (1)) dL_law_841 (by decide) (by decide) (fun x37_ e37 t37 => ?_)
      refine r_goto hC (tgt := 846) dL_law_842 (by decide) ?_
      refine r_callV hC (As := [.int x3_, .int x6_, .int x9_, .int x12_, .int x37_]) (rest := []) (ci := 10) (c_X10_span g (xL X) K len I18 J R hs18 m km x3_ x6_ x9_ x12_ x37_) mT_7_11 mT_1_10 mT_7_8 mT_7_9 mT_7_10 okX10_span ⟨by decide, by decide⟩ rfl (by show kO (K m) = _; rw [km]; rfl) rfl rfl (Nat.le_of_ble_eq_true rfl) ⟨Nat.le_trans (show cn + 0 ≤ cn + 18 from Nat.add_le_add_left (by decide) cn) hcn, Nat.le_trans (show sn + 0 ≤ sn + 231 from Nat.add_le_add_left (by decide) sn) hsn⟩ dL_law_846 (aI1 (F := fun st M => P g X 7 849 [(0, .ref b), (1, .ref x), (2, .ref m), (3, .ref o), (4, .int i)] st _ _ M) (M := (K, len, I18, J, R)) fun x38_ I38 h38 => ?_)
      obtain ⟨hs38, hf38, k38_0⟩ := h38
      show P g X 7 849 [(0, .ref b), (1, .ref x), (2, .ref m), (3, .ref o), (4, .int i)] [.int x38_] cn sn (K, len, I38, J, R)
      have lbv := LBV.ref la lb lv hf18 hf38 rfl rfl rfl k18_1 k38_0
      have lcn := LC.two hu lcb rdm lr hs kx km krd kh klk hf18 hf38 k18_0 rfl rfl rfl
      refine r_pop hC dL_law_849 rfl ?_
      refine r_goto hC (tgt := 1253) dL_law_850 (by decide) ?_
      refine r_sub [0, 1, 2, 3, 4] rfl ?_
      refine r_widen hC (k2 := cn + 18) (n2 := sn + 231) (Nat.le_add_right _ _) (Nat.le_add_right _ _) ?_
      exact kk K len I38 J R ⟨hs38, la, ⟨h, s, lk, ls, lh, (lr.mv hf18 kh klk krd km rfl).mv hf38 kh klk krd km rfl, lcn⟩, lbv⟩
  · refine r_iconst hC (v := (1)) dL_law_798 (by decide) (by decide) (fun x39_ e39 t39 => ?_)
    refine r_goto hC (tgt := 803) dL_law_799 (by decide) ?_
    refine r_callV hC (As := [.int x3_, .int x6_, .int x9_, .int x12_, .int x39_]) (rest := []) (ci := 8) (f_X8_span g (xL X) K len I J R hs x kx x3_ x6_ x9_ x12_ x39_ h hh kh lk hlk2 klk rd hrd krd lw hlw klw llw kn hkn kkn lkn cr hcr kcr1 lcr hu DA EA kc) mT_4_66 mT_1_1 mT_4_63 mT_4_64 mT_4_65 okX8_span ⟨by decide, by decide⟩ rfl (by show kO (K x) = _; rw [kx]; rfl) rfl rfl (Nat.le_of_ble_eq_true rfl) ⟨Nat.le_trans (show cn + 0 ≤ cn + 18 from Nat.add_le_add_left (by decide) cn) hcn, Nat.le_trans (show sn + 0 ≤ sn + 231 from Nat.add_le_add_left (by decide) sn) hsn⟩ dL_law_803 (aI1 (F := fun st M => P g X 7 806 [(0, .ref b), (1, .ref x), (2, .ref m), (3, .ref o), (4, .int i)] st _ _ M) (M := (K, len, I, J, R)) fun x40_ I40 h40 => ?_)
    obtain ⟨hs40, hf40, k40_0, k40_1⟩ := h40
    show P g X 7 806 [(0, .ref b), (1, .ref x), (2, .ref m), (3, .ref o), (4, .int i)] [.int x40_] cn sn (K, len, I40, J, R)
    refine r_pop hC dL_law_806 rfl ?_
    refine r_aload_n hC dL_law_807 2 rfl ?_
    refine r_aload_n hC dL_law_808 0 rfl ?_
    refine r_iload hC dL_law_809 4 rfl ?_
    refine r_iconst hC (v := (1)) dL_law_811 (by decide) (by decide) (fun x41_ e41 t41 => ?_)
    refine r_iadd hC dL_law_812 (fun x42_ e42 => ?_)
    have t42 : x42_.toInt = i.toInt + 1 := sAd e42 t41 (by decide) (by decide) hi hiL hL
    refine r_sld hC hXs hb hbA (sLo t42 (by decide) hi) (sHi t42 (by decide) hiL) dL_law_813 (fun x43_ e43 => ?_)
    obtain rfl : x3_ = x43_ := sld_eq e3 e43 (t2.trans t42.symm)
    refine r_aload_n hC dL_law_814 0 rfl ?_
    refine r_iload hC dL_law_815 4 rfl ?_
    refine r_iconst hC (v := (2)) dL_law_817 (by decide) (by decide) (fun x44_ e44 t44 => ?_)
    refine r_iadd hC dL_law_818 (fun x45_ e45 => ?_)
    have t45 : x45_.toInt = i.toInt + 2 := sAd e45 t44 (by decide) (by decide) hi hiL hL
    refine r_sld hC hXs hb hbA (sLo t45 (by decide) hi) (sHi t45 (by decide) hiL) dL_law_819 (fun x46_ e46 => ?_)
    obtain rfl : x6_ = x46_ := sld_eq e6 e46 (t5.trans t45.symm)
    refine r_aload_n hC dL_law_820 0 rfl ?_
    refine r_iload hC dL_law_821 4 rfl ?_
    refine r_iconst hC (v := (3)) dL_law_823 (by decide) (by decide) (fun x47_ e47 t47 => ?_)
    refine r_iadd hC dL_law_824 (fun x48_ e48 => ?_)
    have t48 : x48_.toInt = i.toInt + 3 := sAd e48 t47 (by decide) (by decide) hi hiL hL
    refine r_sld hC hXs hb hbA (sLo t48 (by decide) hi) (sHi t48 (by decide) hiL) dL_law_825 (fun x49_ e49 => ?_)
    obtain rfl : x9_ = x49_ := sld_eq e9 e49 (t8.trans t48.symm)
    refine r_aload_n hC dL_law_826 0 rfl ?_
    refine r_iload hC dL_law_827 4 rfl ?_
    refine r_iconst hC (v := (4)) dL_law_829 (by decide) (by decide) (fun x50_ e50 t50 => ?_)
    refine r_iadd hC dL_law_830 (fun x51_ e51 => ?_)
    have t51 : x51_.toInt = i.toInt + 4 := sAd e51 t50 (by decide) (by decide) hi hiL hL
    refine r_sld hC hXs hb hbA (sLo t51 (by decide) hi) (sHi t51 (by decide) hiL) dL_law_831 (fun x52_ e52 => ?_)
    obtain rfl : x12_ = x52_ := sld_eq e12 e52 (t11.trans t51.symm)
    refine r_aload_n hC dL_law_832 0 rfl ?_
    refine r_iload hC dL_law_833 4 rfl ?_
    refine r_iconst hC (v := (5)) dL_law_835 (by decide) (by decide) (fun x53_ e53 t53 => ?_)
    refine r_iadd hC dL_law_836 (fun x54_ e54 => ?_)
    have t54 : x54_.toInt = i.toInt + 5 := sAd e54 t53 (by decide) (by decide) hi hiL hL
    refine r_sld hC hXs hb hbA (sLo t54 (by decide) hi) (sHi t54 (by decide) hiL) dL_law_837 (fun x55_ e55 => ?_)
    obtain rfl : x15_ = x55_ := sld_eq e15 e55 (t14.trans t54.symm)
    refine r_if_eq hC (tgt := 845) dL_law_838 (by decide) (fun c56 => ?_) (fun c56 => ?_)
    · refine r_iconst hC (v := (0)) dL_law_845 (by decide) (by decide) (fun x57_ e57 t57 => ?_)
      refine r_callV hC (As := [.int x3_, .int x6_, .int x9_, .int x12_, .int x57_]) (rest := []) (ci := 10) (c_X10_span g (xL X) K len I40 J R hs40 m km x3_ x6_ x9_ x12_ x57_) mT_7_11 mT_1_10 mT_7_8 mT_7_9 mT_7_10 okX10_span ⟨by decide, by decide⟩ rfl (by show kO (K m) = _; rw [km]; rfl) rfl rfl (Nat.le_of_ble_eq_true rfl) ⟨Nat.le_trans (show cn + 0 ≤ cn + 18 from Nat.add_le_add_left (by decide) cn) hcn, Nat.le_trans (show sn + 0 ≤ sn + 231 from Nat.add_le_add_left (by decide) sn) hsn⟩ dL_law_846 (aI1 (F := fun st M => P g X 7 849 [(0, .ref b), (1, .ref x), (2, .ref m), (3, .ref o), (4, .int i)] st _ _ M) (M := (K, len, I40, J, R)) fun x58_ I58 h58 => ?_)
      obtain ⟨hs58, hf58, k58_0⟩ := h58
      show P g X 7 849 [(0, .ref b), (1, .ref x), (2, .ref m), (3, .ref o), (4, .int i)] [.int x58_] cn sn (K, len, I58, J, R)
      have lbv := LBV.ref la lb lv hf40 hf58 rfl rfl rfl k40_1 k58_0
      have lcn := LC.two hu lcb rdm lr hs kx km krd kh klk hf40 hf58 k40_0 rfl rfl rfl
      refine r_pop hC dL_law_849 rfl ?_
      refine r_goto hC (tgt := 1253) dL_law_850 (by decide) ?_
      refine r_sub [0, 1, 2, 3, 4] rfl ?_
      refine r_widen hC (k2 := cn + 18) (n2 := sn + 231) (Nat.le_add_right _ _) (Nat.le_add_right _ _) ?_
      exact kk K len I58 J R ⟨hs58, la, ⟨h, s, lk, ls, lh, (lr.mv hf40 kh klk krd km rfl).mv hf58 kh klk krd km rfl, lcn⟩, lbv⟩
    · refine r_iconst hC (v := (1)) dL_law_841 (by decide) (by decide) (fun x59_ e59 t59 => ?_)
      refine r_goto hC (tgt := 846) dL_law_842 (by decide) ?_
      refine r_callV hC (As := [.int x3_, .int x6_, .int x9_, .int x12_, .int x59_]) (rest := []) (ci := 10) (c_X10_span g (xL X) K len I40 J R hs40 m km x3_ x6_ x9_ x12_ x59_) mT_7_11 mT_1_10 mT_7_8 mT_7_9 mT_7_10 okX10_span ⟨by decide, by decide⟩ rfl (by show kO (K m) = _; rw [km]; rfl) rfl rfl (Nat.le_of_ble_eq_true rfl) ⟨Nat.le_trans (show cn + 0 ≤ cn + 18 from Nat.add_le_add_left (by decide) cn) hcn, Nat.le_trans (show sn + 0 ≤ sn + 231 from Nat.add_le_add_left (by decide) sn) hsn⟩ dL_law_846 (aI1 (F := fun st M => P g X 7 849 [(0, .ref b), (1, .ref x), (2, .ref m), (3, .ref o), (4, .int i)] st _ _ M) (M := (K, len, I40, J, R)) fun x60_ I60 h60 => ?_)
      obtain ⟨hs60, hf60, k60_0⟩ := h60
      show P g X 7 849 [(0, .ref b), (1, .ref x), (2, .ref m), (3, .ref o), (4, .int i)] [.int x60_] cn sn (K, len, I60, J, R)
      have lbv := LBV.ref la lb lv hf40 hf60 rfl rfl rfl k40_1 k60_0
      have lcn := LC.two hu lcb rdm lr hs kx km krd kh klk hf40 hf60 k40_0 rfl rfl rfl
      refine r_pop hC dL_law_849 rfl ?_
      refine r_goto hC (tgt := 1253) dL_law_850 (by decide) ?_
      refine r_sub [0, 1, 2, 3, 4] rfl ?_
      refine r_widen hC (k2 := cn + 18) (n2 := sn + 231) (Nat.le_add_right _ _) (Nat.le_add_right _ _) ?_
      exact kk K len I60 J R ⟨hs60, la, ⟨h, s, lk, ls, lh, (lr.mv hf40 kh klk krd km rfl).mv hf60 kh klk krd km rfl, lcn⟩, lbv⟩
set_option maxHeartbeats 4000000 in
set_option maxRecDepth 100000 in
theorem law_21 {g : GG} {X : XT} {b L : Nat} {xs : Nat → Int32} (hX : LX g X b L xs) {x m o tp bt te tk nr pr rd mt cn sn : Nat} {i : Int32} {K len : Nat → Nat} {I : Nat → Nat → Int32} {J : Nat → Nat → Int64} {R : Nat → Nat → Option Nat} (hI : LI x m o tp bt te tk nr pr rd mt K len I R) (hi : 0 ≤ i.toInt) (hiL : i.toInt + 6 ≤ L) (hcn : cn + 18 ≤ 601024) (hsn : sn + 231 ≤ 7293034) (kk : ∀ K' len' I' J' R', LI x m o tp bt te tk nr pr rd mt K' len' I' R' → P g X 7 1253 [(0, .ref b), (1, .ref x), (2, .ref m), (3, .ref o), (4, .int i)] [] (cn + 18) (sn + 231) (K', len', I', J', R')) : P g X 7 853 [(0, .ref b), (1, .ref x), (2, .ref m), (3, .ref o), (4, .int i)] [] cn sn (K, len, I, J, R) := by
  obtain ⟨hC, hcs, hl, hXs, hb, hbA, hL⟩ := hX
  obtain ⟨hs, la, ⟨h, s, lk, ls, lh, lr, lc⟩, lb, lv⟩ := id hI
  obtain ⟨hu, DA, lcb, EA, kc, rdm⟩ := id lc
  obtain ⟨rwd, scd, lcm⟩ := id lcb
  obtain ⟨sd1, sd2, sd3, sd4, sd5, sd7, sd8, sd9⟩ := id scd
  obtain ⟨kx, km, ⟨ko, no⟩, ⟨htp, ktp⟩, ⟨hbb, kbt, nbt⟩, ⟨hte, kte⟩, ⟨htk, ktk⟩, hbt, ⟨hnr, knr, lnr⟩, ⟨hpr, kpr, lpr⟩, ⟨hrd, krd⟩, ⟨hmt, kmt, nmt⟩⟩ := id la
  obtain ⟨⟨hh, kh⟩, ⟨hs2, ks⟩, ⟨hlk2, klk⟩, ⟨hls, kls⟩, nhs, nls⟩ := id lh
  obtain ⟨lv1, lv2, lv3, lv4⟩ := id lv
  obtain ⟨lw, hlw, klw, llw⟩ := hs.row kx 4 41 60 (by decide) (by decide)
  obtain ⟨kn, hkn, kkn, lkn⟩ := hs.row kx 6 43 6 (by decide) (by decide)
  obtain ⟨cr, hcr, kcr1, lcr⟩ := hs.row kx 5 44 6 (by decide) (by decide)
  have ka : KA x h lk rd K len R := ⟨⟨_, hs⟩, hu, kx, kh, klk, krd⟩
  have rdb9 := hs.rng krd (k := 0) rfl (x := I rd 0) rfl
  obtain ⟨tl, htl, ktl, ltl⟩ := hs.row kx 7 41 60 (by decide) (by decide)
  obtain ⟨lrw, hlrw, klrw, llrw⟩ := hs.row km 15 85 60 (by decide) (by decide)
  have nlt : lw ≠ tl := hu.ne hlw htl (by rw [klw]; decide) (Or.inr (by decide))
  refine r_aload_n hC dL_law_853 1 rfl ?_
  refine r_aload_n hC dL_law_854 0 rfl ?_
  refine r_iload hC dL_law_855 4 rfl ?_
  refine r_iconst hC (v := (1)) dL_law_857 (by decide) (by decide) (fun x1_ e1 t1 => ?_)
  refine r_iadd hC dL_law_858 (fun x2_ e2 => ?_)
  have t2 : x2_.toInt = i.toInt + 1 := sAd e2 t1 (by decide) (by decide) hi hiL hL
  refine r_sld hC hXs hb hbA (sLo t2 (by decide) hi) (sHi t2 (by decide) hiL) dL_law_859 (fun x3_ e3 => ?_)
  refine r_aload_n hC dL_law_860 0 rfl ?_
  refine r_iload hC dL_law_861 4 rfl ?_
  refine r_iconst hC (v := (2)) dL_law_863 (by decide) (by decide) (fun x4_ e4 t4 => ?_)
  refine r_iadd hC dL_law_864 (fun x5_ e5 => ?_)
  have t5 : x5_.toInt = i.toInt + 2 := sAd e5 t4 (by decide) (by decide) hi hiL hL
  refine r_sld hC hXs hb hbA (sLo t5 (by decide) hi) (sHi t5 (by decide) hiL) dL_law_865 (fun x6_ e6 => ?_)
  refine r_callV hC (As := [.int x3_, .int x6_]) (rest := []) (ci := 8) (f_X8_helps g (xL X) K len I J R hs x kx x3_ x6_ h hh kh lk hlk2 klk rd hrd krd lw hlw klw llw kn hkn kkn lkn cr hcr kcr1 lcr hu DA EA kc) mT_4_70 mT_1_1 mT_4_67 mT_4_68 mT_4_69 okX8_helps ⟨by decide, by decide⟩ rfl (by show kO (K x) = _; rw [kx]; rfl) rfl rfl (Nat.le_of_ble_eq_true rfl) ⟨Nat.le_trans (show cn + 0 ≤ cn + 18 from Nat.add_le_add_left (by decide) cn) hcn, Nat.le_trans (show sn + 0 ≤ sn + 231 from Nat.add_le_add_left (by decide) sn) hsn⟩ dL_law_866 (aI1 (F := fun st M => P g X 7 869 [(0, .ref b), (1, .ref x), (2, .ref m), (3, .ref o), (4, .int i)] st _ _ M) (M := (K, len, I, J, R)) fun x7_ I7 h7 => ?_)
  obtain ⟨hs7, hf7, k7_0, k7_1⟩ := h7
  show P g X 7 869 [(0, .ref b), (1, .ref x), (2, .ref m), (3, .ref o), (4, .int i)] [.int x7_] cn sn (K, len, I7, J, R)
  refine r_pop hC dL_law_869 rfl ?_
  refine r_aload_n hC dL_law_870 2 rfl ?_
  refine r_aload_n hC dL_law_871 0 rfl ?_
  refine r_iload hC dL_law_872 4 rfl ?_
  refine r_iconst hC (v := (1)) dL_law_874 (by decide) (by decide) (fun x8_ e8 t8 => ?_)
  refine r_iadd hC dL_law_875 (fun x9_ e9 => ?_)
  have t9 : x9_.toInt = i.toInt + 1 := sAd e9 t8 (by decide) (by decide) hi hiL hL
  refine r_sld hC hXs hb hbA (sLo t9 (by decide) hi) (sHi t9 (by decide) hiL) dL_law_876 (fun x10_ e10 => ?_)
  obtain rfl : x3_ = x10_ := sld_eq e3 e10 (t2.trans t9.symm)
  refine r_aload_n hC dL_law_877 0 rfl ?_
  refine r_iload hC dL_law_878 4 rfl ?_
  refine r_iconst hC (v := (2)) dL_law_880 (by decide) (by decide) (fun x11_ e11 t11 => ?_)
  refine r_iadd hC dL_law_881 (fun x12_ e12 => ?_)
  have t12 : x12_.toInt = i.toInt + 2 := sAd e12 t11 (by decide) (by decide) hi hiL hL
  refine r_sld hC hXs hb hbA (sLo t12 (by decide) hi) (sHi t12 (by decide) hiL) dL_law_882 (fun x13_ e13 => ?_)
  obtain rfl : x6_ = x13_ := sld_eq e6 e13 (t5.trans t12.symm)
  refine r_callV hC (As := [.int x3_, .int x6_]) (rest := []) (ci := 10) (c_X10_helps g (xL X) K len I7 J R hs7 m km x3_ x6_) mT_7_15 mT_1_10 mT_7_12 mT_7_13 mT_7_14 okX10_helps ⟨by decide, by decide⟩ rfl (by show kO (K m) = _; rw [km]; rfl) rfl rfl (Nat.le_of_ble_eq_true rfl) ⟨Nat.le_trans (show cn + 0 ≤ cn + 18 from Nat.add_le_add_left (by decide) cn) hcn, Nat.le_trans (show sn + 0 ≤ sn + 231 from Nat.add_le_add_left (by decide) sn) hsn⟩ dL_law_883 (aI1 (F := fun st M => P g X 7 886 [(0, .ref b), (1, .ref x), (2, .ref m), (3, .ref o), (4, .int i)] st _ _ M) (M := (K, len, I7, J, R)) fun x14_ I14 h14 => ?_)
  obtain ⟨hs14, hf14, k14_0⟩ := h14
  show P g X 7 886 [(0, .ref b), (1, .ref x), (2, .ref m), (3, .ref o), (4, .int i)] [.int x14_] cn sn (K, len, I14, J, R)
  have lbv := LBV.ref la lb lv hf7 hf14 rfl rfl rfl k7_1 k14_0
  have lcn := LC.two hu lcb rdm lr hs kx km krd kh klk hf7 hf14 k7_0 rfl rfl rfl
  refine r_pop hC dL_law_886 rfl ?_
  refine r_goto hC (tgt := 1253) dL_law_887 (by decide) ?_
  refine r_sub [0, 1, 2, 3, 4] rfl ?_
  refine r_widen hC (k2 := cn + 18) (n2 := sn + 231) (Nat.le_add_right _ _) (Nat.le_add_right _ _) ?_
  exact kk K len I14 J R ⟨hs14, la, ⟨h, s, lk, ls, lh, (lr.mv hf7 kh klk krd km rfl).mv hf14 kh klk krd km rfl, lcn⟩, lbv⟩

