set_option maxHeartbeats 4000000 in
set_option maxRecDepth 100000 in
theorem law_31 {g : GG} {X : XT} {b L : Nat} {xs : Nat → Int32} (hX : LX g X b L xs) {x m o tp bt te tk nr pr rd mt cn sn : Nat} {i : Int32} {K len : Nat → Nat} {I : Nat → Nat → Int32} {J : Nat → Nat → Int64} {R : Nat → Nat → Option Nat} (hI : LI x m o tp bt te tk nr pr rd mt K len I R) (hi : 0 ≤ i.toInt) (hiL : i.toInt + 6 ≤ L) (hcn : cn + 18 ≤ 601024) (hsn : sn + 231 ≤ 7293034) (kk : ∀ K' len' I' J' R', LI x m o tp bt te tk nr pr rd mt K' len' I' R' → P g X 7 1253 [(0, .ref b), (1, .ref x), (2, .ref m), (3, .ref o), (4, .int i)] [] (cn + 18) (sn + 231) (K', len', I', J', R')) : P g X 7 1175 [(0, .ref b), (1, .ref x), (2, .ref m), (3, .ref o), (4, .int i)] [] cn sn (K, len, I, J, R) := by
  obtain ⟨hC, hcs, hl, hXs, hb, hbA, hL⟩ := hX
  obtain ⟨hs, la, ⟨h, s, lk, ls, lh, lr, lc⟩, lb, lv⟩ := id hI
  obtain ⟨hu, DA, lcb, EA, kc, rdm⟩ := id lc
  obtain ⟨rwd, scd, lcm⟩ := id lcb
  obtain ⟨sd1, sd2, sd3, sd4, sd5, sd7, sd8, sd9⟩ := id scd
  obtain ⟨kx, km, ⟨ko, no⟩, ⟨htp, ktp⟩, ⟨hbb, kbt, nbt⟩, ⟨hte, kte⟩, ⟨htk, ktk⟩, hbt, ⟨hnr, knr, lnr⟩, ⟨hpr, kpr, lpr⟩, ⟨hrd, krd⟩, ⟨hmt, kmt, nmt⟩⟩ := id la
  obtain ⟨⟨hh, kh⟩, ⟨hs2, ks⟩, ⟨hlk2, klk⟩, ⟨hls, kls⟩, nhs, nls⟩ := id lh
  obtain ⟨lv1, lv2, lv3, lv4⟩ := id lv
  obtain ⟨lw, hlw, klw, llw⟩ := hs.row kx 4 41 60 (by decide) (by decide)
  obtain ⟨kn, hkn, kkn, lkn⟩ := hs.row kx 6 43 6 (by decide) (by decide)
  obtain ⟨cr, hcr, kcr1, lcr⟩ := hs.row kx 5 44 6 (by decide) (by decide)
  have ka : KA x h lk rd K len R := ⟨⟨_, hs⟩, hu, kx, kh, klk, krd⟩
  have rdb9 := hs.rng krd (k := 0) rfl (x := I rd 0) rfl
  obtain ⟨tl, htl, ktl, ltl⟩ := hs.row kx 7 41 60 (by decide) (by decide)
  obtain ⟨lrw, hlrw, klrw, llrw⟩ := hs.row km 15 85 60 (by decide) (by decide)
  have nlt : lw ≠ tl := hu.ne hlw htl (by rw [klw]; decide) (Or.inr (by decide))
  refine r_aload_n hC dL_law_1175 1 rfl ?_
  refine r_aload_n hC dL_law_1176 0 rfl ?_
  refine r_iload hC dL_law_1177 4 rfl ?_
  refine r_iconst hC (v := (1)) dL_law_1179 (by decide) (by decide) (fun x1_ e1 t1 => ?_)
  refine r_iadd hC dL_law_1180 (fun x2_ e2 => ?_)
  have t2 : x2_.toInt = i.toInt + 1 := sAd e2 t1 (by decide) (by decide) hi hiL hL
  refine r_sld hC hXs hb hbA (sLo t2 (by decide) hi) (sHi t2 (by decide) hiL) dL_law_1181 (fun x3_ e3 => ?_)
  refine r_aload_n hC dL_law_1182 0 rfl ?_
  refine r_iload hC dL_law_1183 4 rfl ?_
  refine r_iconst hC (v := (2)) dL_law_1185 (by decide) (by decide) (fun x4_ e4 t4 => ?_)
  refine r_iadd hC dL_law_1186 (fun x5_ e5 => ?_)
  have t5 : x5_.toInt = i.toInt + 2 := sAd e5 t4 (by decide) (by decide) hi hiL hL
  refine r_sld hC hXs hb hbA (sLo t5 (by decide) hi) (sHi t5 (by decide) hiL) dL_law_1187 (fun x6_ e6 => ?_)
  refine r_aload_n hC dL_law_1188 3 rfl ?_
  refine r_callSW hC hcs (As := [.ref x, .int x3_, .int x6_, .ref o]) (rest := []) (f_L_led g (xL X) hl K len I J R hs x kx x3_ x6_ h hh kh lk hlk2 klk rd hrd krd lw hlw klw llw kn hkn kkn lkn cr hcr kcr1 lcr hu DA EA kc o ko no) mW_led mT_1_0 mT_4_154 mT_4_155 okL_led ⟨by decide, by decide⟩ rfl rfl (Nat.le_of_ble_eq_true rfl) ⟨Nat.le_trans (show cn + 1 ≤ cn + 18 from Nat.add_le_add_left (by decide) cn) hcn, Nat.le_trans (show sn + 6 ≤ sn + 231 from Nat.add_le_add_left (by decide) sn) hsn⟩ dL_law_1189 (aI2 (F := fun st M => P g X 7 1192 [(0, .ref b), (1, .ref x), (2, .ref m), (3, .ref o), (4, .int i)] st _ _ M) (M := (K, len, I, J, R)) fun x7_ I7 J7 h7 => ?_)
  obtain ⟨hs7, hf7, -, kcl7⟩ := h7
  show P g X 7 1192 [(0, .ref b), (1, .ref x), (2, .ref m), (3, .ref o), (4, .int i)] [.int x7_] (cn + 1) (sn + 6) (K, len, I7, J7, R)
  refine r_istore hC (lv' := [(5, .int x7_), (0, .ref b), (1, .ref x), (2, .ref m), (3, .ref o), (4, .int i)]) dL_law_1192 (by decide) rfl ?_
  refine r_aload_n hC dL_law_1194 3 rfl ?_
  refine r_aload_n hC dL_law_1195 1 rfl ?_
  refine r_iload hC dL_law_1196 5 rfl ?_
  refine r_iconst hC (v := (1)) dL_law_1198 (by decide) (by decide) (fun x8_ e8 t8 => ?_)
  refine r_iadd hC dL_law_1199 (fun x9_ e9 => ?_)
  have t9 : x9_.toInt = i.toInt + 1 := sAd e9 t8 (by decide) (by decide) hi hiL hL
  refine r_sld hC hXs hb hbA (sLo t9 (by decide) hi) (sHi t9 (by decide) hiL) dL_law_1200 (fun x10_ e10 => ?_)
  obtain rfl : x3_ = x10_ := sld_eq e3 e10 (t2.trans t9.symm)
  refine r_aload_n hC dL_law_1201 1 rfl ?_
  refine r_iload hC dL_law_1202 5 rfl ?_
  refine r_iconst hC (v := (2)) dL_law_1204 (by decide) (by decide) (fun x11_ e11 t11 => ?_)
  refine r_iadd hC dL_law_1205 (fun x12_ e12 => ?_)
  have t12 : x12_.toInt = i.toInt + 2 := sAd e12 t11 (by decide) (by decide) hi hiL hL
  refine r_sld hC hXs hb hbA (sLo t12 (by decide) hi) (sHi t12 (by decide) hiL) dL_law_1206 (fun x13_ e13 => ?_)
  obtain rfl : x6_ = x13_ := sld_eq e6 e13 (t5.trans t12.symm)
  refine r_callV hC (As := [.int x3_, .int x6_]) (rest := []) (ci := 10) (c_X10_led g (xL X) K len I7 J7 R hs7 m km x3_ x6_) mT_7_76 mT_1_10 mT_7_73 mT_7_74 mT_7_75 okX10_led ⟨by decide, by decide⟩ rfl (by show kO (K m) = _; rw [km]; rfl) rfl rfl (Nat.le_of_ble_eq_true rfl) ⟨by show (cn + 1) + 0 ≤ 601024; omega, by show (sn + 6) + 0 ≤ 7293034; omega⟩ dL_law_1207 (aI1 (F := fun st M => P g X 7 1210 [(5, .int x7_), (0, .ref b), (1, .ref x), (2, .ref m), (3, .ref o), (4, .int i)] st _ _ M) (M := (K, len, I7, J7, R)) fun x14_ I14 h14 => ?_)
  obtain ⟨hs14, hf14⟩ := h14
  show P g X 7 1210 [(5, .int x7_), (0, .ref b), (1, .ref x), (2, .ref m), (3, .ref o), (4, .int i)] [.int x14_] (cn + 1) (sn + 6) (K, len, I14, J7, R)
  have lbv := LBV.sil la lb lv hf7 hf14 rfl rfl rfl rfl rfl rfl
  have lcn := LC.two hu lcb rdm lr hs kx km krd kh klk hf7 hf14 kcl7 rfl rfl rfl
  refine r_istore hC (lv' := [(6, .int x14_), (5, .int x7_), (0, .ref b), (1, .ref x), (2, .ref m), (3, .ref o), (4, .int i)]) dL_law_1210 (by decide) rfl ?_
  refine r_goto hC (tgt := 1253) dL_law_1212 (by decide) ?_
  refine r_sub [2, 3, 4, 5, 6] rfl ?_
  refine r_widen hC (k2 := cn + 18) (n2 := sn + 231) (Nat.add_le_add_left (by decide) _) (Nat.add_le_add_left (by decide) _) ?_
  exact kk K len I14 J7 R ⟨hs14, la, ⟨h, s, lk, ls, lh, (lr.mv hf7 kh klk krd km rfl).mv hf14 kh klk krd km rfl, lcn⟩, lbv⟩
set_option maxHeartbeats 4000000 in
set_option maxRecDepth 100000 in
theorem law_32 {g : GG} {X : XT} {b L : Nat} {xs : Nat → Int32} (hX : LX g X b L xs) {x m o tp bt te tk nr pr rd mt cn sn : Nat} {i : Int32} {K len : Nat → Nat} {I : Nat → Nat → Int32} {J : Nat → Nat → Int64} {R : Nat → Nat → Option Nat} (hI : LI x m o tp bt te tk nr pr rd mt K len I R) (hi : 0 ≤ i.toInt) (hiL : i.toInt + 6 ≤ L) (hcn : cn + 18 ≤ 601024) (hsn : sn + 231 ≤ 7293034) (kk : ∀ K' len' I' J' R', LI x m o tp bt te tk nr pr rd mt K' len' I' R' → P g X 7 1253 [(0, .ref b), (1, .ref x), (2, .ref m), (3, .ref o), (4, .int i)] [] (cn + 18) (sn + 231) (K', len', I', J', R')) : P g X 7 1215 [(0, .ref b), (1, .ref x), (2, .ref m), (3, .ref o), (4, .int i)] [] cn sn (K, len, I, J, R) := by
  obtain ⟨hC, hcs, hl, hXs, hb, hbA, hL⟩ := hX
  obtain ⟨hs, la, ⟨h, s, lk, ls, lh, lr, lc⟩, lb, lv⟩ := id hI
  obtain ⟨hu, DA, lcb, EA, kc, rdm⟩ := id lc
  obtain ⟨rwd, scd, lcm⟩ := id lcb
  obtain ⟨sd1, sd2, sd3, sd4, sd5, sd7, sd8, sd9⟩ := id scd
  obtain ⟨kx, km, ⟨ko, no⟩, ⟨htp, ktp⟩, ⟨hbb, kbt, nbt⟩, ⟨hte, kte⟩, ⟨htk, ktk⟩, hbt, ⟨hnr, knr, lnr⟩, ⟨hpr, kpr, lpr⟩, ⟨hrd, krd⟩, ⟨hmt, kmt, nmt⟩⟩ := id la
  obtain ⟨⟨hh, kh⟩, ⟨hs2, ks⟩, ⟨hlk2, klk⟩, ⟨hls, kls⟩, nhs, nls⟩ := id lh
  obtain ⟨lv1, lv2, lv3, lv4⟩ := id lv
  obtain ⟨lw, hlw, klw, llw⟩ := hs.row kx 4 41 60 (by decide) (by decide)
  obtain ⟨kn, hkn, kkn, lkn⟩ := hs.row kx 6 43 6 (by decide) (by decide)
  obtain ⟨cr, hcr, kcr1, lcr⟩ := hs.row kx 5 44 6 (by decide) (by decide)
  have ka : KA x h lk rd K len R := ⟨⟨_, hs⟩, hu, kx, kh, klk, krd⟩
  have rdb9 := hs.rng krd (k := 0) rfl (x := I rd 0) rfl
  obtain ⟨tl, htl, ktl, ltl⟩ := hs.row kx 7 41 60 (by decide) (by decide)
  obtain ⟨lrw, hlrw, klrw, llrw⟩ := hs.row km 15 85 60 (by decide) (by decide)
  have nlt : lw ≠ tl := hu.ne hlw htl (by rw [klw]; decide) (Or.inr (by decide))
  refine r_aload_n hC dL_law_1215 1 rfl ?_
  refine r_aload_n hC dL_law_1216 0 rfl ?_
  refine r_iload hC dL_law_1217 4 rfl ?_
  refine r_iconst hC (v := (1)) dL_law_1219 (by decide) (by decide) (fun x1_ e1 t1 => ?_)
  refine r_iadd hC dL_law_1220 (fun x2_ e2 => ?_)
  have t2 : x2_.toInt = i.toInt + 1 := sAd e2 t1 (by decide) (by decide) hi hiL hL
  refine r_sld hC hXs hb hbA (sLo t2 (by decide) hi) (sHi t2 (by decide) hiL) dL_law_1221 (fun x3_ e3 => ?_)
  refine r_callV hC (As := [.int x3_]) (rest := []) (ci := 8) (f_X8_size g (xL X) K len I J R hs x kx x3_ h hh kh lk hlk2 klk rd hrd krd tp htp ktp) mT_4_149 mT_1_1 mT_4_146 mT_4_147 mT_4_148 okX8_size ⟨by decide, by decide⟩ rfl (by show kO (K x) = _; rw [kx]; rfl) rfl rfl (Nat.le_of_ble_eq_true rfl) ⟨Nat.le_trans (show cn + 0 ≤ cn + 18 from Nat.add_le_add_left (by decide) cn) hcn, Nat.le_trans (show sn + 0 ≤ sn + 231 from Nat.add_le_add_left (by decide) sn) hsn⟩ dL_law_1222 (aI0 (F := fun st M => P g X 7 1225 [(0, .ref b), (1, .ref x), (2, .ref m), (3, .ref o), (4, .int i)] st _ _ M) (M := (K, len, I, J, R)) fun x4_  h4 => ?_)
  obtain ⟨k4_0, k4_1, k4_2, k4_3, k4_4, k4_5, k4_6, k4_7, k4_8, k4_9, k4_10⟩ := h4
  show P g X 7 1225 [(0, .ref b), (1, .ref x), (2, .ref m), (3, .ref o), (4, .int i)] [.int x4_] cn sn (K, len, I, J, R)
  refine r_pop hC dL_law_1225 rfl ?_
  refine r_aload_n hC dL_law_1226 2 rfl ?_
  refine r_aload_n hC dL_law_1227 0 rfl ?_
  refine r_iload hC dL_law_1228 4 rfl ?_
  refine r_iconst hC (v := (1)) dL_law_1230 (by decide) (by decide) (fun x5_ e5 t5 => ?_)
  refine r_iadd hC dL_law_1231 (fun x6_ e6 => ?_)
  have t6 : x6_.toInt = i.toInt + 1 := sAd e6 t5 (by decide) (by decide) hi hiL hL
  refine r_sld hC hXs hb hbA (sLo t6 (by decide) hi) (sHi t6 (by decide) hiL) dL_law_1232 (fun x7_ e7 => ?_)
  obtain rfl : x3_ = x7_ := sld_eq e3 e7 (t2.trans t6.symm)
  refine r_callV hC (As := [.int x3_]) (rest := []) (ci := 10) (f_X10_size g (xL X) K len I J R hs m km x3_) mT_7_80 mT_1_10 mT_7_77 mT_7_78 mT_7_79 okX10_size ⟨by decide, by decide⟩ rfl (by show kO (K m) = _; rw [km]; rfl) rfl rfl (Nat.le_of_ble_eq_true rfl) ⟨Nat.le_trans (show cn + 0 ≤ cn + 18 from Nat.add_le_add_left (by decide) cn) hcn, Nat.le_trans (show sn + 0 ≤ sn + 231 from Nat.add_le_add_left (by decide) sn) hsn⟩ dL_law_1233 (aI1 (F := fun st M => P g X 7 1236 [(0, .ref b), (1, .ref x), (2, .ref m), (3, .ref o), (4, .int i)] st _ _ M) (M := (K, len, I, J, R)) fun x8_ I8 h8 => ?_)
  obtain ⟨hs8, hf8, k8_0⟩ := h8
  show P g X 7 1236 [(0, .ref b), (1, .ref x), (2, .ref m), (3, .ref o), (4, .int i)] [.int x8_] cn sn (K, len, I8, J, R)
  have lbv := LBV.sil la lb lv (Fr.refl (l := [])) hf8 rfl rfl rfl rfl rfl rfl
  have t_h1 : (I8 h 1).toInt = (I h 1).toInt := congrArg Int32.toInt ((hf8.get kh rfl).trans ((Fr.refl (l := [])).get kh rfl))
  have t_h4 : (I8 h 4).toInt = (I h 4).toInt := congrArg Int32.toInt ((hf8.get kh rfl).trans ((Fr.refl (l := [])).get kh rfl))
  have t_h6 : (I8 h 6).toInt = (I h 6).toInt := congrArg Int32.toInt ((hf8.get kh rfl).trans ((Fr.refl (l := [])).get kh rfl))
  have t_h8 : (I8 h 8).toInt = (I h 8).toInt := congrArg Int32.toInt ((hf8.get kh rfl).trans ((Fr.refl (l := [])).get kh rfl))
  have t_h12 : (I8 h 12).toInt = (I h 12).toInt := congrArg Int32.toInt ((hf8.get kh rfl).trans ((Fr.refl (l := [])).get kh rfl))
  have t_lk1 : (I8 lk 1).toInt = (I lk 1).toInt := congrArg Int32.toInt ((hf8.get klk rfl).trans ((Fr.refl (l := [])).get klk rfl))
  have t_lk3 : (I8 lk 3).toInt = (I lk 3).toInt := congrArg Int32.toInt ((hf8.get klk rfl).trans ((Fr.refl (l := [])).get klk rfl))
  have t_lk4 : (I8 lk 4).toInt = (I lk 4).toInt := congrArg Int32.toInt ((hf8.get klk rfl).trans ((Fr.refl (l := [])).get klk rfl))
  have t_lk5 : (I8 lk 5).toInt = (I lk 5).toInt := congrArg Int32.toInt ((hf8.get klk rfl).trans ((Fr.refl (l := [])).get klk rfl))
  have t_rd0 : (I8 rd 0).toInt = (I rd 0).toInt := congrArg Int32.toInt ((hf8.get krd rfl).trans ((Fr.refl (l := [])).get krd rfl))
  have t_m20 : (I8 m 20).toInt = (I m 20).toInt := congrArg Int32.toInt ((hf8.get km rfl).trans ((Fr.refl (l := [])).get km rfl))
  have lcn := (lc.mv hs kx km krd (Fr.refl (l := [])) kh klk rfl).mv hs kx km krd hf8 kh klk rfl
  rcases lr.2 with ⟨r3, n1, n2, n3, n4, n5, n6, n7, n8, n9, nr0⟩ | ⟨hm, r3, khm, m0, m1, m2, m3, m4, m5, m6, m7, m8, m9⟩
  · have pq := k8_0
    rcases pq with ⟨-, pq⟩ | ⟨hm9, z9, -⟩
    rotate_left
    · rw [r3] at z9; cases z9
    obtain ⟨z7, zo, zz⟩ := pq
    have eqv : x4_.toInt = x8_.toInt := by
      rcases (show x3_.toInt = 0 ∨ x3_.toInt = 1 ∨ x3_.toInt = 2 ∨ x3_.toInt = 3 ∨ x3_.toInt = 4 ∨ x3_.toInt = 5 ∨ x3_.toInt = 6 ∨ x3_.toInt = 7 ∨ x3_.toInt = 8 ∨ x3_.toInt = 9 ∨ (x3_.toInt < 0 ∨ 9 < x3_.toInt) by clear k4_0 k4_1 k4_2 k4_3 k4_4 k4_5 k4_6 k4_7 k4_8 k4_9 k4_10 z7 zo zz; omega) with hj | hj | hj | hj | hj | hj | hj | hj | hj | hj | hj
      · have h8 := k4_0 hj; have h9 := zz ⟨by clear k4_0 k4_1 k4_2 k4_3 k4_4 k4_5 k4_6 k4_7 k4_8 k4_9 k4_10 z7 zo zz; omega, by clear k4_0 k4_1 k4_2 k4_3 k4_4 k4_5 k4_6 k4_7 k4_8 k4_9 k4_10 z7 zo zz; omega, by clear k4_0 k4_1 k4_2 k4_3 k4_4 k4_5 k4_6 k4_7 k4_8 k4_9 k4_10 z7 zo zz; omega⟩; clear k4_0 k4_1 k4_2 k4_3 k4_4 k4_5 k4_6 k4_7 k4_8 k4_9 k4_10 z7 zo zz; omega
      · have h8 := k4_1 hj; have h9 := zz ⟨by clear k4_0 k4_1 k4_2 k4_3 k4_4 k4_5 k4_6 k4_7 k4_8 k4_9 k4_10 z7 zo zz; omega, by clear k4_0 k4_1 k4_2 k4_3 k4_4 k4_5 k4_6 k4_7 k4_8 k4_9 k4_10 z7 zo zz; omega, by clear k4_0 k4_1 k4_2 k4_3 k4_4 k4_5 k4_6 k4_7 k4_8 k4_9 k4_10 z7 zo zz; omega⟩; clear k4_0 k4_1 k4_2 k4_3 k4_4 k4_5 k4_6 k4_7 k4_8 k4_9 k4_10 z7 zo zz; omega
      · have h8 := k4_2 hj; have h9 := zz ⟨by clear k4_0 k4_1 k4_2 k4_3 k4_4 k4_5 k4_6 k4_7 k4_8 k4_9 k4_10 z7 zo zz; omega, by clear k4_0 k4_1 k4_2 k4_3 k4_4 k4_5 k4_6 k4_7 k4_8 k4_9 k4_10 z7 zo zz; omega, by clear k4_0 k4_1 k4_2 k4_3 k4_4 k4_5 k4_6 k4_7 k4_8 k4_9 k4_10 z7 zo zz; omega⟩; clear k4_0 k4_1 k4_2 k4_3 k4_4 k4_5 k4_6 k4_7 k4_8 k4_9 k4_10 z7 zo zz; omega
      · have h8 := k4_3 hj; have h9 := zz ⟨by clear k4_0 k4_1 k4_2 k4_3 k4_4 k4_5 k4_6 k4_7 k4_8 k4_9 k4_10 z7 zo zz; omega, by clear k4_0 k4_1 k4_2 k4_3 k4_4 k4_5 k4_6 k4_7 k4_8 k4_9 k4_10 z7 zo zz; omega, by clear k4_0 k4_1 k4_2 k4_3 k4_4 k4_5 k4_6 k4_7 k4_8 k4_9 k4_10 z7 zo zz; omega⟩; clear k4_0 k4_1 k4_2 k4_3 k4_4 k4_5 k4_6 k4_7 k4_8 k4_9 k4_10 z7 zo zz; omega
      · have h8 := k4_4 hj; have h9 := zz ⟨by clear k4_0 k4_1 k4_2 k4_3 k4_4 k4_5 k4_6 k4_7 k4_8 k4_9 k4_10 z7 zo zz; omega, by clear k4_0 k4_1 k4_2 k4_3 k4_4 k4_5 k4_6 k4_7 k4_8 k4_9 k4_10 z7 zo zz; omega, by clear k4_0 k4_1 k4_2 k4_3 k4_4 k4_5 k4_6 k4_7 k4_8 k4_9 k4_10 z7 zo zz; omega⟩; clear k4_0 k4_1 k4_2 k4_3 k4_4 k4_5 k4_6 k4_7 k4_8 k4_9 k4_10 z7 zo zz; omega
      · have h8 := k4_5 hj; have h9 := zz ⟨by clear k4_0 k4_1 k4_2 k4_3 k4_4 k4_5 k4_6 k4_7 k4_8 k4_9 k4_10 z7 zo zz; omega, by clear k4_0 k4_1 k4_2 k4_3 k4_4 k4_5 k4_6 k4_7 k4_8 k4_9 k4_10 z7 zo zz; omega, by clear k4_0 k4_1 k4_2 k4_3 k4_4 k4_5 k4_6 k4_7 k4_8 k4_9 k4_10 z7 zo zz; omega⟩; clear k4_0 k4_1 k4_2 k4_3 k4_4 k4_5 k4_6 k4_7 k4_8 k4_9 k4_10 z7 zo zz; omega
      · have h8 := k4_6 hj; have h9 := zz ⟨by clear k4_0 k4_1 k4_2 k4_3 k4_4 k4_5 k4_6 k4_7 k4_8 k4_9 k4_10 z7 zo zz; omega, by clear k4_0 k4_1 k4_2 k4_3 k4_4 k4_5 k4_6 k4_7 k4_8 k4_9 k4_10 z7 zo zz; omega, by clear k4_0 k4_1 k4_2 k4_3 k4_4 k4_5 k4_6 k4_7 k4_8 k4_9 k4_10 z7 zo zz; omega⟩; clear k4_0 k4_1 k4_2 k4_3 k4_4 k4_5 k4_6 k4_7 k4_8 k4_9 k4_10 z7 zo zz; omega
      · have h8 := k4_7 hj; have h9 := z7 hj; have h7 := lr.1; clear k4_0 k4_1 k4_2 k4_3 k4_4 k4_5 k4_6 k4_7 k4_8 k4_9 k4_10 z7 zo zz; omega
      · have h8 := k4_8 hj; have h9 := zz ⟨by clear k4_0 k4_1 k4_2 k4_3 k4_4 k4_5 k4_6 k4_7 k4_8 k4_9 k4_10 z7 zo zz; omega, by clear k4_0 k4_1 k4_2 k4_3 k4_4 k4_5 k4_6 k4_7 k4_8 k4_9 k4_10 z7 zo zz; omega, by clear k4_0 k4_1 k4_2 k4_3 k4_4 k4_5 k4_6 k4_7 k4_8 k4_9 k4_10 z7 zo zz; omega⟩; clear k4_0 k4_1 k4_2 k4_3 k4_4 k4_5 k4_6 k4_7 k4_8 k4_9 k4_10 z7 zo zz; omega
      · have h8 := k4_9 hj; have h9 := zz ⟨by clear k4_0 k4_1 k4_2 k4_3 k4_4 k4_5 k4_6 k4_7 k4_8 k4_9 k4_10 z7 zo zz; omega, by clear k4_0 k4_1 k4_2 k4_3 k4_4 k4_5 k4_6 k4_7 k4_8 k4_9 k4_10 z7 zo zz; omega, by clear k4_0 k4_1 k4_2 k4_3 k4_4 k4_5 k4_6 k4_7 k4_8 k4_9 k4_10 z7 zo zz; omega⟩; clear k4_0 k4_1 k4_2 k4_3 k4_4 k4_5 k4_6 k4_7 k4_8 k4_9 k4_10 z7 zo zz; omega
      · have h8 := k4_10 hj; have h9 := zo hj; have h7 := lr.1; clear k4_0 k4_1 k4_2 k4_3 k4_4 k4_5 k4_6 k4_7 k4_8 k4_9 k4_10 z7 zo zz; omega
    clear k4_0 k4_1 k4_2 k4_3 k4_4 k4_5 k4_6 k4_7 k4_8 k4_9 k4_10 z7 zo zz
    refine r_pop hC dL_law_1236 rfl ?_
    refine r_goto hC (tgt := 1253) dL_law_1237 (by decide) ?_
    refine r_sub [0, 1, 2, 3, 4] rfl ?_
    refine r_widen hC (k2 := cn + 18) (n2 := sn + 231) (Nat.le_add_right _ _) (Nat.le_add_right _ _) ?_
    exact kk K len I8 J R ⟨hs8, la, ⟨h, s, lk, ls, lh, (lr.mv (Fr.refl (l := [])) kh klk krd km rfl).mv hf8 kh klk krd km rfl, lcn⟩, lbv⟩
  · have pq := k8_0
    rcases pq with ⟨z9, -⟩ | ⟨hm9, z9, pq⟩
    · rw [r3] at z9; cases z9
    rw [r3] at z9; cases z9
    have t_h1 : (I8 h 1).toInt = (I h 1).toInt := congrArg Int32.toInt ((hf8.get kh rfl).trans ((Fr.refl (l := [])).get kh rfl))
    have t_h4 : (I8 h 4).toInt = (I h 4).toInt := congrArg Int32.toInt ((hf8.get kh rfl).trans ((Fr.refl (l := [])).get kh rfl))
    have t_h6 : (I8 h 6).toInt = (I h 6).toInt := congrArg Int32.toInt ((hf8.get kh rfl).trans ((Fr.refl (l := [])).get kh rfl))
    have t_h8 : (I8 h 8).toInt = (I h 8).toInt := congrArg Int32.toInt ((hf8.get kh rfl).trans ((Fr.refl (l := [])).get kh rfl))
    have t_h12 : (I8 h 12).toInt = (I h 12).toInt := congrArg Int32.toInt ((hf8.get kh rfl).trans ((Fr.refl (l := [])).get kh rfl))
    have t_lk1 : (I8 lk 1).toInt = (I lk 1).toInt := congrArg Int32.toInt ((hf8.get klk rfl).trans ((Fr.refl (l := [])).get klk rfl))
    have t_lk3 : (I8 lk 3).toInt = (I lk 3).toInt := congrArg Int32.toInt ((hf8.get klk rfl).trans ((Fr.refl (l := [])).get klk rfl))
    have t_lk4 : (I8 lk 4).toInt = (I lk 4).toInt := congrArg Int32.toInt ((hf8.get klk rfl).trans ((Fr.refl (l := [])).get klk rfl))
    have t_lk5 : (I8 lk 5).toInt = (I lk 5).toInt := congrArg Int32.toInt ((hf8.get klk rfl).trans ((Fr.refl (l := [])).get klk rfl))
    have t_rd0 : (I8 rd 0).toInt = (I rd 0).toInt := congrArg Int32.toInt ((hf8.get krd rfl).trans ((Fr.refl (l := [])).get krd rfl))
    have t_m20 : (I8 m 20).toInt = (I m 20).toInt := congrArg Int32.toInt ((hf8.get km rfl).trans ((Fr.refl (l := [])).get km rfl))
    have t_hm0 : (I8 hm 0).toInt = (I hm 0).toInt := congrArg Int32.toInt ((hf8.get khm rfl).trans ((Fr.refl (l := [])).get khm rfl))
    have t_hm2 : (I8 hm 2).toInt = (I hm 2).toInt := congrArg Int32.toInt ((hf8.get khm rfl).trans ((Fr.refl (l := [])).get khm rfl))
    have t_hm3 : (I8 hm 3).toInt = (I hm 3).toInt := congrArg Int32.toInt ((hf8.get khm rfl).trans ((Fr.refl (l := [])).get khm rfl))
    have t_hm4 : (I8 hm 4).toInt = (I hm 4).toInt := congrArg Int32.toInt ((hf8.get khm rfl).trans ((Fr.refl (l := [])).get khm rfl))
    have t_hm5 : (I8 hm 5).toInt = (I hm 5).toInt := congrArg Int32.toInt ((hf8.get khm rfl).trans ((Fr.refl (l := [])).get khm rfl))
    have t_hm6 : (I8 hm 6).toInt = (I hm 6).toInt := congrArg Int32.toInt ((hf8.get khm rfl).trans ((Fr.refl (l := [])).get khm rfl))
    have t_hm7 : (I8 hm 7).toInt = (I hm 7).toInt := congrArg Int32.toInt ((hf8.get khm rfl).trans ((Fr.refl (l := [])).get khm rfl))
    have t_hm8 : (I8 hm 8).toInt = (I hm 8).toInt := congrArg Int32.toInt ((hf8.get khm rfl).trans ((Fr.refl (l := [])).get khm rfl))
    have t_hm9 : (I8 hm 9).toInt = (I hm 9).toInt := congrArg Int32.toInt ((hf8.get khm rfl).trans ((Fr.refl (l := [])).get khm rfl))
    obtain ⟨z0, z1, z2, z3, z4, z5, z6, z7, z8, z9, zo⟩ := pq
    have eqv : x4_.toInt = x8_.toInt := by
      rcases (show x3_.toInt = 0 ∨ x3_.toInt = 1 ∨ x3_.toInt = 2 ∨ x3_.toInt = 3 ∨ x3_.toInt = 4 ∨ x3_.toInt = 5 ∨ x3_.toInt = 6 ∨ x3_.toInt = 7 ∨ x3_.toInt = 8 ∨ x3_.toInt = 9 ∨ (x3_.toInt < 0 ∨ 9 < x3_.toInt) by clear k4_0 k4_1 k4_2 k4_3 k4_4 k4_5 k4_6 k4_7 k4_8 k4_9 k4_10 z0 z1 z2 z3 z4 z5 z6 z7 z8 z9 zo; omega) with hj | hj | hj | hj | hj | hj | hj | hj | hj | hj | hj
      · have h8 := k4_0 hj; have h9 := z0 hj; have h7 := lr.1; clear k4_0 k4_1 k4_2 k4_3 k4_4 k4_5 k4_6 k4_7 k4_8 k4_9 k4_10 z0 z1 z2 z3 z4 z5 z6 z7 z8 z9 zo; omega
      · have h8 := k4_1 hj; have h9 := z1 hj; have h7 := lr.1; clear k4_0 k4_1 k4_2 k4_3 k4_4 k4_5 k4_6 k4_7 k4_8 k4_9 k4_10 z0 z1 z2 z3 z4 z5 z6 z7 z8 z9 zo; omega
      · have h8 := k4_2 hj; have h9 := z2 hj; have h7 := lr.1; clear k4_0 k4_1 k4_2 k4_3 k4_4 k4_5 k4_6 k4_7 k4_8 k4_9 k4_10 z0 z1 z2 z3 z4 z5 z6 z7 z8 z9 zo; omega
      · have h8 := k4_3 hj; have h9 := z3 hj; have h7 := lr.1; clear k4_0 k4_1 k4_2 k4_3 k4_4 k4_5 k4_6 k4_7 k4_8 k4_9 k4_10 z0 z1 z2 z3 z4 z5 z6 z7 z8 z9 zo; omega
      · have h8 := k4_4 hj; have h9 := z4 hj; have h7 := lr.1; clear k4_0 k4_1 k4_2 k4_3 k4_4 k4_5 k4_6 k4_7 k4_8 k4_9 k4_10 z0 z1 z2 z3 z4 z5 z6 z7 z8 z9 zo; omega
      · have h8 := k4_5 hj; have h9 := z5 hj; have h7 := lr.1; clear k4_0 k4_1 k4_2 k4_3 k4_4 k4_5 k4_6 k4_7 k4_8 k4_9 k4_10 z0 z1 z2 z3 z4 z5 z6 z7 z8 z9 zo; omega
      · have h8 := k4_6 hj; have h9 := z6 hj; have h7 := lr.1; clear k4_0 k4_1 k4_2 k4_3 k4_4 k4_5 k4_6 k4_7 k4_8 k4_9 k4_10 z0 z1 z2 z3 z4 z5 z6 z7 z8 z9 zo; omega
      · have h8 := k4_7 hj; have h9 := z7 hj; have h7 := lr.1; clear k4_0 k4_1 k4_2 k4_3 k4_4 k4_5 k4_6 k4_7 k4_8 k4_9 k4_10 z0 z1 z2 z3 z4 z5 z6 z7 z8 z9 zo; omega
      · have h8 := k4_8 hj; have h9 := z8 hj; have h7 := lr.1; clear k4_0 k4_1 k4_2 k4_3 k4_4 k4_5 k4_6 k4_7 k4_8 k4_9 k4_10 z0 z1 z2 z3 z4 z5 z6 z7 z8 z9 zo; omega
      · have h8 := k4_9 hj; have h9 := z9 hj; have h7 := lr.1; clear k4_0 k4_1 k4_2 k4_3 k4_4 k4_5 k4_6 k4_7 k4_8 k4_9 k4_10 z0 z1 z2 z3 z4 z5 z6 z7 z8 z9 zo; omega
      · have h8 := k4_10 hj; have h9 := zo hj; have h7 := lr.1; clear k4_0 k4_1 k4_2 k4_3 k4_4 k4_5 k4_6 k4_7 k4_8 k4_9 k4_10 z0 z1 z2 z3 z4 z5 z6 z7 z8 z9 zo; omega
    clear k4_0 k4_1 k4_2 k4_3 k4_4 k4_5 k4_6 k4_7 k4_8 k4_9 k4_10 z0 z1 z2 z3 z4 z5 z6 z7 z8 z9 zo
    refine r_pop hC dL_law_1236 rfl ?_
    refine r_goto hC (tgt := 1253) dL_law_1237 (by decide) ?_
    refine r_sub [0, 1, 2, 3, 4] rfl ?_
    refine r_widen hC (k2 := cn + 18) (n2 := sn + 231) (Nat.le_add_right _ _) (Nat.le_add_right _ _) ?_
    exact kk K len I8 J R ⟨hs8, la, ⟨h, s, lk, ls, lh, (lr.mv (Fr.refl (l := [])) kh klk krd km rfl).mv hf8 kh klk krd km rfl, lcn⟩, lbv⟩
set_option maxHeartbeats 4000000 in
set_option maxRecDepth 100000 in
theorem law_33 {g : GG} {X : XT} {b L : Nat} {xs : Nat → Int32} (hX : LX g X b L xs) {x m o tp bt te tk nr pr rd mt cn sn : Nat} {i : Int32} {K len : Nat → Nat} {I : Nat → Nat → Int32} {J : Nat → Nat → Int64} {R : Nat → Nat → Option Nat} (hI : LI x m o tp bt te tk nr pr rd mt K len I R) (hi : 0 ≤ i.toInt) (hiL : i.toInt + 6 ≤ L) (hcn : cn + 18 ≤ 601024) (hsn : sn + 231 ≤ 7293034) (kk : ∀ K' len' I' J' R', LI x m o tp bt te tk nr pr rd mt K' len' I' R' → P g X 7 1253 [(0, .ref b), (1, .ref x), (2, .ref m), (3, .ref o), (4, .int i)] [] (cn + 18) (sn + 231) (K', len', I', J', R')) : P g X 7 1240 [(0, .ref b), (1, .ref x), (2, .ref m), (3, .ref o), (4, .int i)] [] cn sn (K, len, I, J, R) := by
  obtain ⟨hC, hcs, hl, hXs, hb, hbA, hL⟩ := hX
  obtain ⟨hs, la, ⟨h, s, lk, ls, lh, lr, lc⟩, lb, lv⟩ := id hI
  obtain ⟨hu, DA, lcb, EA, kc, rdm⟩ := id lc
  obtain ⟨rwd, scd, lcm⟩ := id lcb
  obtain ⟨sd1, sd2, sd3, sd4, sd5, sd7, sd8, sd9⟩ := id scd
  obtain ⟨kx, km, ⟨ko, no⟩, ⟨htp, ktp⟩, ⟨hbb, kbt, nbt⟩, ⟨hte, kte⟩, ⟨htk, ktk⟩, hbt, ⟨hnr, knr, lnr⟩, ⟨hpr, kpr, lpr⟩, ⟨hrd, krd⟩, ⟨hmt, kmt, nmt⟩⟩ := id la
  obtain ⟨⟨hh, kh⟩, ⟨hs2, ks⟩, ⟨hlk2, klk⟩, ⟨hls, kls⟩, nhs, nls⟩ := id lh
  obtain ⟨lv1, lv2, lv3, lv4⟩ := id lv
  obtain ⟨lw, hlw, klw, llw⟩ := hs.row kx 4 41 60 (by decide) (by decide)
  obtain ⟨kn, hkn, kkn, lkn⟩ := hs.row kx 6 43 6 (by decide) (by decide)
  obtain ⟨cr, hcr, kcr1, lcr⟩ := hs.row kx 5 44 6 (by decide) (by decide)
  have ka : KA x h lk rd K len R := ⟨⟨_, hs⟩, hu, kx, kh, klk, krd⟩
  have rdb9 := hs.rng krd (k := 0) rfl (x := I rd 0) rfl
  obtain ⟨tl, htl, ktl, ltl⟩ := hs.row kx 7 41 60 (by decide) (by decide)
  obtain ⟨lrw, hlrw, klrw, llrw⟩ := hs.row km 15 85 60 (by decide) (by decide)
  have nlt : lw ≠ tl := hu.ne hlw htl (by rw [klw]; decide) (Or.inr (by decide))
  refine r_aload_n hC dL_law_1240 1 rfl ?_
  refine r_callV hC (As := []) (rest := []) (ci := 8) (c_X8_trouble g (xL X) K len I J R hs x kx ) mT_4_153 mT_1_1 mT_4_150 mT_4_151 mT_4_152 okX8_trouble ⟨by decide, by decide⟩ rfl (by show kO (K x) = _; rw [kx]; rfl) rfl rfl (Nat.le_of_ble_eq_true rfl) ⟨Nat.le_trans (show cn + 0 ≤ cn + 18 from Nat.add_le_add_left (by decide) cn) hcn, Nat.le_trans (show sn + 0 ≤ sn + 231 from Nat.add_le_add_left (by decide) sn) hsn⟩ dL_law_1241 (aI0 (F := fun st M => P g X 7 1244 [(0, .ref b), (1, .ref x), (2, .ref m), (3, .ref o), (4, .int i)] st _ _ M) (M := (K, len, I, J, R)) fun x1_  h1 => ?_)
  show P g X 7 1244 [(0, .ref b), (1, .ref x), (2, .ref m), (3, .ref o), (4, .int i)] [.int x1_] cn sn (K, len, I, J, R)
  refine r_pop hC dL_law_1244 rfl ?_
  refine r_aload_n hC dL_law_1245 2 rfl ?_
  refine r_callV hC (As := []) (rest := []) (ci := 10) (c_X10_trouble g (xL X) K len I J R hs m km ) mT_7_84 mT_1_10 mT_7_81 mT_7_82 mT_7_83 okX10_trouble ⟨by decide, by decide⟩ rfl (by show kO (K m) = _; rw [km]; rfl) rfl rfl (Nat.le_of_ble_eq_true rfl) ⟨Nat.le_trans (show cn + 0 ≤ cn + 18 from Nat.add_le_add_left (by decide) cn) hcn, Nat.le_trans (show sn + 0 ≤ sn + 231 from Nat.add_le_add_left (by decide) sn) hsn⟩ dL_law_1246 (aI1 (F := fun st M => P g X 7 1249 [(0, .ref b), (1, .ref x), (2, .ref m), (3, .ref o), (4, .int i)] st _ _ M) (M := (K, len, I, J, R)) fun x2_ I2 h2 => ?_)
  obtain ⟨hs2, hf2⟩ := h2
  show P g X 7 1249 [(0, .ref b), (1, .ref x), (2, .ref m), (3, .ref o), (4, .int i)] [.int x2_] cn sn (K, len, I2, J, R)
  refine r_pop hC dL_law_1249 rfl ?_
  refine r_goto hC (tgt := 1253) dL_law_1250 (by decide) ?_
  refine r_sub [0, 1, 2, 3, 4] rfl ?_
  refine r_widen hC (k2 := cn + 18) (n2 := sn + 231) (by omega) (by omega) ?_
  exact kk K len I2 J R (hI.sil hs2 (Fr.refl (l := [])) hf2 rfl rfl rfl rfl rfl rfl rfl rfl rfl rfl)

