set_option maxHeartbeats 4000000 in
set_option maxRecDepth 100000 in
theorem law_1 {g : GG} {X : XT} {b L : Nat} {xs : Nat → Int32} (hX : LX g X b L xs) {x m o tp bt te tk nr pr rd mt cn sn : Nat} {i : Int32} {K len : Nat → Nat} {I : Nat → Nat → Int32} {J : Nat → Nat → Int64} {R : Nat → Nat → Option Nat} (hI : LI x m o tp bt te tk nr pr rd mt K len I R) (hi : 0 ≤ i.toInt) (hiL : i.toInt + 6 ≤ L) (hcn : cn + 18 ≤ 601024) (hsn : sn + 231 ≤ 7293034) (kk : ∀ K' len' I' J' R', LI x m o tp bt te tk nr pr rd mt K' len' I' R' → P g X 7 1253 [(0, .ref b), (1, .ref x), (2, .ref m), (3, .ref o), (4, .int i)] [] (cn + 18) (sn + 231) (K', len', I', J', R')) : P g X 7 265 [(0, .ref b), (1, .ref x), (2, .ref m), (3, .ref o), (4, .int i)] [] cn sn (K, len, I, J, R) := by
  obtain ⟨hC, hcs, hl, hXs, hb, hbA, hL⟩ := hX
  obtain ⟨hs, la, ⟨h, s, lk, ls, lh, lr, lc⟩, lb, lv⟩ := id hI
  obtain ⟨hu, DA, lcb, EA, kc, rdm⟩ := id lc
  obtain ⟨rwd, scd, lcm⟩ := id lcb
  obtain ⟨sd1, sd2, sd3, sd4, sd5, sd7, sd8, sd9⟩ := id scd
  obtain ⟨kx, km, ⟨ko, no⟩, ⟨htp, ktp⟩, ⟨hbb, kbt, nbt⟩, ⟨hte, kte⟩, ⟨htk, ktk⟩, hbt, ⟨hnr, knr, lnr⟩, ⟨hpr, kpr, lpr⟩, ⟨hrd, krd⟩, ⟨hmt, kmt, nmt⟩⟩ := id la
  obtain ⟨⟨hh, kh⟩, ⟨hs2, ks⟩, ⟨hlk2, klk⟩, ⟨hls, kls⟩, nhs, nls⟩ := id lh
  obtain ⟨lv1, lv2, lv3, lv4⟩ := id lv
  obtain ⟨lw, hlw, klw, llw⟩ := hs.row kx 4 41 60 (by decide) (by decide)
  obtain ⟨kn, hkn, kkn, lkn⟩ := hs.row kx 6 43 6 (by decide) (by decide)
  obtain ⟨cr, hcr, kcr1, lcr⟩ := hs.row kx 5 44 6 (by decide) (by decide)
  have ka : KA x h lk rd K len R := ⟨⟨_, hs⟩, hu, kx, kh, klk, krd⟩
  have rdb9 := hs.rng krd (k := 0) rfl (x := I rd 0) rfl
  obtain ⟨tl, htl, ktl, ltl⟩ := hs.row kx 7 41 60 (by decide) (by decide)
  obtain ⟨lrw, hlrw, klrw, llrw⟩ := hs.row km 15 85 60 (by decide) (by decide)
  have nlt : lw ≠ tl := hu.ne hlw htl (by rw [klw]; decide) (Or.inr (by decide))
  refine r_aload_n hC dL_law_265 1 rfl ?_
  refine r_aload_n hC dL_law_266 0 rfl ?_
  refine r_iload hC dL_law_267 4 rfl ?_
  refine r_iconst hC (v := (1)) dL_law_269 (by decide) (by decide) (fun x1_ e1 t1 => ?_)
  refine r_iadd hC dL_law_270 (fun x2_ e2 => ?_)
  have t2 : x2_.toInt = i.toInt + 1 := sAd e2 t1 (by decide) (by decide) hi hiL hL
  refine r_sld hC hXs hb hbA (sLo t2 (by decide) hi) (sHi t2 (by decide) hiL) dL_law_271 (fun x3_ e3 => ?_)
  have rt := hs.rng ktp (k := 1) rfl (x := I tp 1) rfl
  refine r_callV hC (As := [.int x3_]) (rest := []) (ci := 8) (n_X8_hill g (xL X) K len I J R hs x kx x3_ tp htp ktp bt hbb kbt nbt te hte kte tk htk ktk hbt nr hnr knr lnr pr hpr kpr lpr h hh kh s hs2 ks lk hlk2 klk ls hls kls rd hrd krd nhs nls lw hlw klw llw kn hkn kkn lkn hu (fun j => (I bt j).toInt) (I tp 1).toInt.toNat (by omega) (fun _ _ => rfl)) mT_2_129 mT_1_1 mT_2_126 mT_2_127 mT_2_128 okX8_hill ⟨by decide, by decide⟩ rfl (by show kO (K x) = _; rw [kx]; rfl) rfl rfl (Nat.le_of_ble_eq_true rfl) ⟨Nat.le_trans (show cn + 0 ≤ cn + 18 from Nat.add_le_add_left (by decide) cn) hcn, Nat.le_trans (show sn + 0 ≤ sn + 231 from Nat.add_le_add_left (by decide) sn) hsn⟩ dL_law_272 (aI3 (F := fun st M => P g X 7 275 [(0, .ref b), (1, .ref x), (2, .ref m), (3, .ref o), (4, .int i)] st _ _ M) (M := (K, len, I, J, R)) fun x4_ I4 J4 R4 h4 => ?_)
  obtain ⟨hs4, hf4, -, hfR4, k4, hu4⟩ := h4
  show P g X 7 275 [(0, .ref b), (1, .ref x), (2, .ref m), (3, .ref o), (4, .int i)] [.int x4_] cn sn (K, len, I4, J4, R4)
  refine r_pop hC dL_law_275 rfl ?_
  refine r_aload_n hC dL_law_276 2 rfl ?_
  refine r_aload_n hC dL_law_277 0 rfl ?_
  refine r_iload hC dL_law_278 4 rfl ?_
  refine r_iconst hC (v := (1)) dL_law_280 (by decide) (by decide) (fun x5_ e5 t5 => ?_)
  refine r_iadd hC dL_law_281 (fun x6_ e6 => ?_)
  have t6 : x6_.toInt = i.toInt + 1 := sAd e6 t5 (by decide) (by decide) hi hiL hL
  refine r_sld hC hXs hb hbA (sLo t6 (by decide) hi) (sHi t6 (by decide) hiL) dL_law_282 (fun x7_ e7 => ?_)
  obtain rfl : x3_ = x7_ := sld_eq e3 e7 (t2.trans t6.symm)
  have m6 : (I4 m 6).toInt = (I m 6).toInt := congrArg Int32.toInt (hf4.get km rfl)
  refine r_callV hC (As := [.int x3_]) (rest := []) (ci := 10) (f_X10_hill g (xL X) K len I4 J4 R4 hs4 m km x3_ mt ((hfR4.get km rfl).trans hmt) kmt nmt (fun j => (I bt j).toInt) (I tp 1).toInt.toNat (by omega) (fun j hj => by rw [hf4.get kmt rfl, (lb j (by omega)).1]) (fun j hj => (lb j (by omega)).2) hu4) mT_5_81 mT_1_10 mT_5_78 mT_5_79 mT_5_80 okX10_hill ⟨by decide, by decide⟩ rfl (by show kO (K m) = _; rw [km]; rfl) rfl rfl (Nat.le_of_ble_eq_true rfl) ⟨Nat.le_trans (show cn + 18 ≤ cn + 18 from Nat.add_le_add_left (by decide) cn) hcn, Nat.le_trans (show sn + 231 ≤ sn + 231 from Nat.add_le_add_left (by decide) sn) hsn⟩ dL_law_283 (aI5 (F := fun st M => P g X 7 286 [(0, .ref b), (1, .ref x), (2, .ref m), (3, .ref o), (4, .int i)] st _ _ M) fun x8_ M8 h8 => ?_)
  obtain ⟨K8, len8, I8, J8, R8⟩ := M8
  obtain ⟨hs8, ho8, hf8, hfR8, hom8, hoq8, huu8, k8⟩ := h8
  dsimp only at hs8 ho8 hf8 hfR8 hom8 hoq8 huu8 k8
  show P g X 7 286 [(0, .ref b), (1, .ref x), (2, .ref m), (3, .ref o), (4, .int i)] [.int x8_] (cn + 18) (sn + 231) (K8, len8, I8, J8, R8)
  have hR : ∀ b k, K b ≠ 0 → ¬ (K b = 9 ∧ (k = 2 ∨ k = 3)) → ¬ (K b = 11 ∧ (k = 3 ∨ k = 4)) → R8 b k = R b k := fun b k z1 z2 z3 => (hfR8 b k z1 (in_113 z3)).trans (hfR4 b k (in_92 z2))
  have la2 := la.mv ho8 hR
  have kk2 : ∀ b q, K b = q → q ≠ 0 → K8 b = q := fun b q z1 z2 => (ho8 b (by rw [z1]; exact z2)).1.trans z1
  have g2 : R8 x 2 = R4 x 2 := hfR8 x 2 (by rw [kx]; decide) (by rw [kx]; rfl)
  have g3 : R8 x 3 = R4 x 3 := hfR8 x 3 (by rw [kx]; decide) (by rw [kx]; rfl)
  have gh : R8 h 0 = some lk := (hR h 0 (by rw [kh]; decide) (by rw [kh]; decide) (by rw [kh]; decide)).trans hlk2
  have gs : R8 s 0 = some ls := (hR s 0 (by rw [ks]; decide) (by rw [ks]; decide) (by rw [ks]; decide)).trans hls
  have v_tp1 : I8 tp 1 = I4 tp 1 := hf8 tp 1 (by rw [ktp]; decide) (by rw [ktp]; rfl)
  have v_te5 : I8 te 5 = I4 te 5 := hf8 te 5 (by rw [kte]; decide) (by rw [kte]; rfl)
  have v_te6 : I8 te 6 = I4 te 6 := hf8 te 6 (by rw [kte]; decide) (by rw [kte]; rfl)
  have v_x12 : I8 x 12 = I4 x 12 := hf8 x 12 (by rw [kx]; decide) (by rw [kx]; rfl)
  have v_rd0 : I8 rd 0 = I4 rd 0 := hf8 rd 0 (by rw [krd]; decide) (by rw [krd]; rfl)
  have v_h1 : I8 h 1 = I4 h 1 := hf8 h 1 (by rw [kh]; decide) (by rw [kh]; rfl)
  have v_h4 : I8 h 4 = I4 h 4 := hf8 h 4 (by rw [kh]; decide) (by rw [kh]; rfl)
  have v_h6 : I8 h 6 = I4 h 6 := hf8 h 6 (by rw [kh]; decide) (by rw [kh]; rfl)
  have v_h8 : I8 h 8 = I4 h 8 := hf8 h 8 (by rw [kh]; decide) (by rw [kh]; rfl)
  have v_h12 : I8 h 12 = I4 h 12 := hf8 h 12 (by rw [kh]; decide) (by rw [kh]; rfl)
  have v_lk1 : I8 lk 1 = I4 lk 1 := hf8 lk 1 (by rw [klk]; decide) (by rw [klk]; rfl)
  have v_lk2 : I8 lk 2 = I4 lk 2 := hf8 lk 2 (by rw [klk]; decide) (by rw [klk]; rfl)
  have v_lk3 : I8 lk 3 = I4 lk 3 := hf8 lk 3 (by rw [klk]; decide) (by rw [klk]; rfl)
  have v_lk4 : I8 lk 4 = I4 lk 4 := hf8 lk 4 (by rw [klk]; decide) (by rw [klk]; rfl)
  have v_lk5 : I8 lk 5 = I4 lk 5 := hf8 lk 5 (by rw [klk]; decide) (by rw [klk]; rfl)
  have v_s1 : I8 s 1 = I4 s 1 := hf8 s 1 (by rw [ks]; decide) (by rw [ks]; rfl)
  have v_s4 : I8 s 4 = I4 s 4 := hf8 s 4 (by rw [ks]; decide) (by rw [ks]; rfl)
  have v_s6 : I8 s 6 = I4 s 6 := hf8 s 6 (by rw [ks]; decide) (by rw [ks]; rfl)
  have v_s8 : I8 s 8 = I4 s 8 := hf8 s 8 (by rw [ks]; decide) (by rw [ks]; rfl)
  have v_s12 : I8 s 12 = I4 s 12 := hf8 s 12 (by rw [ks]; decide) (by rw [ks]; rfl)
  have v_ls1 : I8 ls 1 = I4 ls 1 := hf8 ls 1 (by rw [kls]; decide) (by rw [kls]; rfl)
  have v_ls2 : I8 ls 2 = I4 ls 2 := hf8 ls 2 (by rw [kls]; decide) (by rw [kls]; rfl)
  have v_ls3 : I8 ls 3 = I4 ls 3 := hf8 ls 3 (by rw [kls]; decide) (by rw [kls]; rfl)
  have v_ls4 : I8 ls 4 = I4 ls 4 := hf8 ls 4 (by rw [kls]; decide) (by rw [kls]; rfl)
  have v_ls5 : I8 ls 5 = I4 ls 5 := hf8 ls 5 (by rw [kls]; decide) (by rw [kls]; rfl)
  have r31 : R4 m 3 = R m 3 := hfR4.get km rfl
  rcases k4 with ⟨qr, q1, q12, qf1, qR, qa, qb⟩ | ⟨qr, kf, qf, qs, q1, q12, qt, q5, q6, qh, ql, qd, qow, qlv, qkn, qR, qa, qb⟩ | ⟨qr, D, qs, q1, q12, qt, q5, qrep, qrw, qdj, qdi, qlr, qkz, qz, qd, qa, qb⟩
  · rcases k8 with ⟨pr_, p1, p2, p6, p12, p20, p3⟩ | ⟨pr_, ⟨kf2, qf2, ps, p1, p2, p12, p6, p20, p3⟩ | ⟨D2, q2, ps, p1, p2, p12, p6, p20, p3, pk, psm, prw, pdj, pdi⟩⟩
    · have e6 : (I4 m 6).toInt = (I m 6).toInt := congrArg Int32.toInt (qf1.get km rfl)
      have e12 : (I4 m 12).toInt = (I m 12).toInt := congrArg Int32.toInt (qf1.get km rfl)
      have etp : (I4 tp 1).toInt = (I tp 1).toInt := congrArg Int32.toInt (qf1.get ktp rfl)
      have et5 : (I4 te 5).toInt = (I te 5).toInt := congrArg Int32.toInt (qf1.get kte rfl)
      have lvn : LV x m tp te I8 := by unfold LV; rw [v_tp1, v_te5, v_te6, v_x12]; exact ⟨by omega, by omega, fun z => by omega, fun _ => by omega⟩
      have lrn : LR h lk rd m K8 I8 R8 := by
        have w_h1 : (I8 h 1).toInt = (I h 1).toInt := by rw [v_h1, qf1.get kh rfl]
        have w_h4 : (I8 h 4).toInt = (I h 4).toInt := by rw [v_h4, qf1.get kh rfl]
        have w_h6 : (I8 h 6).toInt = (I h 6).toInt := by rw [v_h6, qf1.get kh rfl]
        have w_h8 : (I8 h 8).toInt = (I h 8).toInt := by rw [v_h8, qf1.get kh rfl]
        have w_h12 : (I8 h 12).toInt = (I h 12).toInt := by rw [v_h12, qf1.get kh rfl]
        have w_lk1 : (I8 lk 1).toInt = (I lk 1).toInt := by rw [v_lk1, qf1.get klk rfl]
        have w_lk3 : (I8 lk 3).toInt = (I lk 3).toInt := by rw [v_lk3, qf1.get klk rfl]
        have w_lk4 : (I8 lk 4).toInt = (I lk 4).toInt := by rw [v_lk4, qf1.get klk rfl]
        have w_lk5 : (I8 lk 5).toInt = (I lk 5).toInt := by rw [v_lk5, qf1.get klk rfl]
        have w_rd : (I8 rd 0).toInt = (I rd 0).toInt := by rw [v_rd0, qf1.get krd rfl]
        have w_m : (I8 m 20).toInt = (I m 20).toInt := p20.trans (congrArg Int32.toInt (qf1.get km rfl))
        refine ⟨w_rd.trans (lr.1.trans w_m.symm), ?_⟩
        rcases lr.2 with ⟨r3, n1, n2, n3, n4, n5, n6, n7, n8, n9, nr0⟩ | ⟨hm, r3, khm, m0, m1, m2, m3, m4, m5, m6, m7, m8, m9⟩
        · exact Or.inl ⟨p3.trans (r31.trans r3), w_h1.trans n1, w_h4.trans n2, w_h6.trans n3, w_h8.trans n4, w_h12.trans n5, w_lk1.trans n6, w_lk3.trans n7, w_lk4.trans n8, w_lk5.trans n9, w_rd.trans nr0⟩
        · have om9 : ∀ k, (I8 hm k).toInt = (I hm k).toInt := fun k => by rw [hom8 hm khm, qf1.get khm rfl]
          exact Or.inr ⟨hm, p3.trans (r31.trans r3), kk2 hm 10 khm (by decide), by rw [w_h6]; exact m0, w_h1.trans (m1.trans (om9 3).symm), w_h4.trans (m2.trans (om9 6).symm), w_h6.trans (m3.trans (om9 7).symm), w_h8.trans (m4.trans (om9 8).symm), w_h12.trans (m5.trans (om9 9).symm), w_lk1.trans (m6.trans (om9 0).symm), w_lk3.trans (m7.trans (om9 2).symm), w_lk4.trans (m8.trans (om9 4).symm), by rw [w_lk5, om9 4, om9 5]; exact m9⟩
      have eC : ∀ b k, qC (K b) = true → I8 b k = I4 b k := fun b k z => hf8 b k (q0C z) (okQ_in (q := qC) rfl qC_big z k)
      have n9 : ∀ b, K b = 2 ∨ K b = 3 ∨ K b = 45 → K b ≠ 0 ∧ K b ≠ 9 ∧ K b ≠ 11 := fun b z => by rcases z with z | z | z <;> rw [z] <;> decide
      have eR : ∀ b k, K b = 2 ∨ K b = 3 ∨ K b = 45 → R8 b k = R b k := fun b k z => hR b k (n9 b z).1 (fun y => (n9 b z).2.1 y.1) (fun y => (n9 b z).2.2 y.1)
      have eRn : ∀ b k, K b = 2 ∨ K b = 3 ∨ K b = 45 → R8 b k = R4 b k := fun b k z => hfR8 b k (n9 b z).1 (in_113 (fun y => (n9 b z).2.2 y.1))
      have hcx := CC_x hs kh klk hu
      have hcs := CC_x hs4 ks kls hu4
      have rwE : RW (CC h lk R) (cntN DA) DA I8 := (rwd.mv hcx qC_big qf1 rfl).eq (fun r j b k hc => eC b k (hcx.1 r j b k hc))
      have lcb2 : LCb x h lk m DA K8 I8 R8 := by
        refine ⟨rwE.toR hs kh klk eR, ⟨by rw [v_lk1, qf1.get klk rfl]; exact sd1, by rw [v_lk2, qf1.get klk rfl]; exact sd2, by rw [v_lk3, qf1.get klk rfl]; exact sd3, by rw [v_lk4, qf1.get klk rfl]; exact sd4, by rw [v_h1, qf1.get kh rfl]; exact sd5, by rw [v_h6, qf1.get kh rfl]; exact sd7, by rw [v_h8, qf1.get kh rfl]; exact sd8, by rw [v_h12, qf1.get kh rfl]; exact sd9⟩, fun hm z => ?_⟩
        obtain ⟨z1, z2, z3, z4, z5⟩ := lcm hm ((p3.trans r31).symm.trans z)
        have zk : K hm ≠ 0 ∧ K hm ≠ 9 ∧ K hm ≠ 11 := by rw [z1]; decide
        have om9 : ∀ k, (I8 hm k).toInt = (I hm k).toInt := fun k => by rw [hom8 hm z1, qf1.get z1 rfl]
        refine ⟨kk2 hm 10 z1 (by decide), z2, ((z3.mv (CM_x hs z1) qM_big qf1 rfl).eq (fun r j b k hc => hoq8 b k ((CM_x hs z1).1 r j b k hc) ⟨hm, r + 10, zk.1, by rw [qR]; exact hc.2.2.2⟩)).toRM (fun k => hR hm k zk.1 (fun y => zk.2.1 y.1) (fun y => zk.2.2 y.1)), ?_, fun l2 zl => by rw [(hR x 4 (by rw [kx]; decide) (fun y => by omega) (fun y => by rw [kx] at y; omega)), hlw] at zl; cases zl; exact (z5 lw hlw).eq (fun j => (hf8 lw j (by rw [klw]; decide) (by rw [klw]; rfl)).trans (qf1.get klw rfl))⟩
        unfold scM; simp only [om9]; exact z4
      have kc2 : KC DA EA x h lk rd I8 R8 := (KC.re kc rfl rfl rfl rwE lcb2.2.1 (fun z7 => ⟨(kc.2.2.1 z7).1, fun l2 zl => by rw [hlw] at zl; cases zl; exact ((kc.2.2.1 z7).2.2 lw hlw).eq (fun j => (hf8 lw j (by rw [klw]; decide) (by rw [klw]; rfl)).trans (qf1.get klw rfl))⟩) (KN.eq kc.2.2.2.1 ka (fun b k z => (mf_q hf8 (q := qW) rfl qW_big rfl b k (q_W z)).trans (Fr.crs qf1 rfl b k z)) (fun kn2 zl j => by rw [hkn] at zl; cases zl; exact (hf8 kn j (by rw [kkn]; decide) (by rw [kkn]; rfl)).trans (qf1.get kkn rfl))) (by rw [v_rd0, qf1.get krd rfl]) (fun b k z => (mf_q hf8 (q := qY) rfl qY_big rfl b k (q_Y hs krd z)).trans (Fr.rrow qf1 hs krd rfl b k z))).toR ka (fun k hk => hR x k (by rw [kx]; decide) (by omega) (by omega)) (fun b k hb => hR b k (by omega) (by omega) (by omega)) lcb2.1
      have mm20 : (I8 m 20).toInt = (I m 20).toInt := p20.trans (congrArg Int32.toInt (qf1.get km rfl))
      have rdm2 : RdM EA m I8 R8 := fun r j a2 hr ha hj => by
        rw [hR m (r + 21) (by rw [km]; decide) (by omega) (by omega)] at ha
        have h9 := rk11 hs km hr ha
        have h8 : I8 a2 j = I a2 j := by rcases h9 with z | z | z | z <;> exact (hf8 a2 j (by rw [z]; decide) (by rw [z]; rfl)).trans (qf1.get z rfl)
        rw [h8]; exact rdm r j a2 hr ha (by omega)
      have lcn : LC x h lk rd m K8 I8 R8 := ⟨huu8, DA, lcb2, EA, kc2, rdm2⟩
      refine r_pop hC dL_law_286 rfl ?_
      refine r_goto hC (tgt := 1253) dL_law_287 (by decide) ?_
      refine r_sub [0, 1, 2, 3, 4] rfl ?_
      refine r_widen hC (k2 := cn + 18) (n2 := sn + 231) (by omega) (by omega) ?_
      exact kk K8 len8 I8 J8 R8 ⟨hs8, la2, ⟨h, s, lk, ls, ⟨⟨g2.trans qa, kk2 h 2 kh (by decide)⟩, ⟨g3.trans qb, kk2 s 2 ks (by decide)⟩, ⟨gh, kk2 lk 3 klk (by decide)⟩, ⟨gs, kk2 ls 3 kls (by decide)⟩, nhs, nls⟩, lrn, lcn⟩, (fun j hj => by rw [v_tp1, qf1.get ktp rfl] at hj; rw [hf8 mt j (by rw [kmt]; decide) (by rw [kmt]; rfl), hf8 bt j (by rw [kbt]; decide) (by rw [kbt]; rfl), qf1.get kmt rfl, qf1.get kbt rfl]; exact lb j hj), lvn⟩
    · exfalso; omega
    · exfalso; omega
  · rcases k8 with ⟨pr_, p1, p2, p6, p12, p20, p3⟩ | ⟨pr_, ⟨kf2, qf2, ps, p1, p2, p12, p6, p20, p3⟩ | ⟨D2, q2, ps, p1, p2, p12, p6, p20, p3, pk, psm, prw, pdj, pdi⟩⟩
    · exfalso; omega
    · rw [qs] at ps; cases ps
      have lvn : LV x m tp te I8 := by unfold LV; rw [v_tp1, v_te5, v_te6, v_x12]; exact ⟨by omega, by omega, fun z => by omega, fun z => by omega⟩
      have lrn : LR h lk rd m K8 I8 R8 := by
        have w_h1 : (I8 h 1).toInt = (I h 1).toInt := by rw [v_h1, congrFun qh 1]
        have w_h4 : (I8 h 4).toInt = (I h 4).toInt := by rw [v_h4, congrFun qh 4]
        have w_h6 : (I8 h 6).toInt = (I h 6).toInt := by rw [v_h6, congrFun qh 6]
        have w_h8 : (I8 h 8).toInt = (I h 8).toInt := by rw [v_h8, congrFun qh 8]
        have w_h12 : (I8 h 12).toInt = (I h 12).toInt := by rw [v_h12, congrFun qh 12]
        have w_lk1 : (I8 lk 1).toInt = (I lk 1).toInt := by rw [v_lk1, congrFun ql 1]
        have w_lk3 : (I8 lk 3).toInt = (I lk 3).toInt := by rw [v_lk3, congrFun ql 3]
        have w_lk4 : (I8 lk 4).toInt = (I lk 4).toInt := by rw [v_lk4, congrFun ql 4]
        have w_lk5 : (I8 lk 5).toInt = (I lk 5).toInt := by rw [v_lk5, congrFun ql 5]
        have w_rd : (I8 rd 0).toInt = (I rd 0).toInt := by rw [v_rd0]; exact qd
        have w_m : (I8 m 20).toInt = (I m 20).toInt := p20.trans (congrArg Int32.toInt (hf4.get km rfl))
        refine ⟨w_rd.trans (lr.1.trans w_m.symm), ?_⟩
        rcases lr.2 with ⟨r3, n1, n2, n3, n4, n5, n6, n7, n8, n9, nr0⟩ | ⟨hm, r3, khm, m0, m1, m2, m3, m4, m5, m6, m7, m8, m9⟩
        · exact Or.inl ⟨p3.trans (r31.trans r3), w_h1.trans n1, w_h4.trans n2, w_h6.trans n3, w_h8.trans n4, w_h12.trans n5, w_lk1.trans n6, w_lk3.trans n7, w_lk4.trans n8, w_lk5.trans n9, w_rd.trans nr0⟩
        · have om9 : ∀ k, (I8 hm k).toInt = (I hm k).toInt := fun k => by rw [hom8 hm khm, hf4.get khm rfl]
          exact Or.inr ⟨hm, p3.trans (r31.trans r3), kk2 hm 10 khm (by decide), by rw [w_h6]; exact m0, w_h1.trans (m1.trans (om9 3).symm), w_h4.trans (m2.trans (om9 6).symm), w_h6.trans (m3.trans (om9 7).symm), w_h8.trans (m4.trans (om9 8).symm), w_h12.trans (m5.trans (om9 9).symm), w_lk1.trans (m6.trans (om9 0).symm), w_lk3.trans (m7.trans (om9 2).symm), w_lk4.trans (m8.trans (om9 4).symm), by rw [w_lk5, om9 4, om9 5]; exact m9⟩
      have eC : ∀ b k, qC (K b) = true → I8 b k = I4 b k := fun b k z => hf8 b k (q0C z) (okQ_in (q := qC) rfl qC_big z k)
      have n9 : ∀ b, K b = 2 ∨ K b = 3 ∨ K b = 45 → K b ≠ 0 ∧ K b ≠ 9 ∧ K b ≠ 11 := fun b z => by rcases z with z | z | z <;> rw [z] <;> decide
      have eR : ∀ b k, K b = 2 ∨ K b = 3 ∨ K b = 45 → R8 b k = R b k := fun b k z => hR b k (n9 b z).1 (fun y => (n9 b z).2.1 y.1) (fun y => (n9 b z).2.2 y.1)
      have eRn : ∀ b k, K b = 2 ∨ K b = 3 ∨ K b = 45 → R8 b k = R4 b k := fun b k z => hfR8 b k (n9 b z).1 (in_113 (fun y => (n9 b z).2.2 y.1))
      have hcx := CC_x hs kh klk hu
      have hcs := CC_x hs4 ks kls hu4
      have rwE : RW (CC h lk R) (cntN DA) DA I8 := (qow _ _ rwd).eq (fun r j b k hc => eC b k (hcx.1 r j b k hc))
      have lcb2 : LCb x h lk m DA K8 I8 R8 := by
        refine ⟨rwE.toR hs kh klk eR, ⟨by rw [v_lk1, congrFun ql 1]; exact sd1, by rw [v_lk2, congrFun ql 2]; exact sd2, by rw [v_lk3, congrFun ql 3]; exact sd3, by rw [v_lk4, congrFun ql 4]; exact sd4, by rw [v_h1, congrFun qh 1]; exact sd5, by rw [v_h6, congrFun qh 6]; exact sd7, by rw [v_h8, congrFun qh 8]; exact sd8, by rw [v_h12, congrFun qh 12]; exact sd9⟩, fun hm z => ?_⟩
        obtain ⟨z1, z2, z3, z4, z5⟩ := lcm hm ((p3.trans r31).symm.trans z)
        have zk : K hm ≠ 0 ∧ K hm ≠ 9 ∧ K hm ≠ 11 := by rw [z1]; decide
        have om9 : ∀ k, (I8 hm k).toInt = (I hm k).toInt := fun k => by rw [hom8 hm z1, hf4.get z1 rfl]
        refine ⟨kk2 hm 10 z1 (by decide), z2, ((z3.mv (CM_x hs z1) qM_big hf4 rfl).eq (fun r j b k hc => hoq8 b k ((CM_x hs z1).1 r j b k hc) ⟨hm, r + 10, zk.1, by rw [qR]; exact hc.2.2.2⟩)).toRM (fun k => hR hm k zk.1 (fun y => zk.2.1 y.1) (fun y => zk.2.2 y.1)), ?_, fun l2 zl => by rw [(hR x 4 (by rw [kx]; decide) (fun y => by omega) (fun y => by rw [kx] at y; omega)), hlw] at zl; cases zl; exact (z5 lw hlw).eq (fun j => (hf8 lw j (by rw [klw]; decide) (by rw [klw]; rfl)).trans (qlv j))⟩
        unfold scM; simp only [om9]; exact z4
      have kc2 : KC DA EA x h lk rd I8 R8 := (KC.re kc rfl rfl rfl rwE lcb2.2.1 (fun z7 => ⟨(kc.2.2.1 z7).1, fun l2 zl => by rw [hlw] at zl; cases zl; exact ((kc.2.2.1 z7).2.2 lw hlw).eq (fun j => (hf8 lw j (by rw [klw]; decide) (by rw [klw]; rfl)).trans (qlv j))⟩) (KN.eq kc.2.2.2.1 ka (fun b k z => (mf_q hf8 (q := qW) rfl qW_big rfl b k (q_W z)).trans (Fr.crs hf4 rfl b k z)) (fun kn2 zl j => by rw [hkn] at zl; cases zl; exact (hf8 kn j (by rw [kkn]; decide) (by rw [kkn]; rfl)).trans (qkn j))) (by rw [v_rd0]; exact qd) (fun b k z => (mf_q hf8 (q := qY) rfl qY_big rfl b k (q_Y hs krd z)).trans (Fr.rrow hf4 hs krd rfl b k z))).toR ka (fun k hk => hR x k (by rw [kx]; decide) (by omega) (by omega)) (fun b k hb => hR b k (by omega) (by omega) (by omega)) lcb2.1
      have mm20 : (I8 m 20).toInt = (I m 20).toInt := p20.trans (congrArg Int32.toInt (hf4.get km rfl))
      have rdm2 : RdM EA m I8 R8 := fun r j a2 hr ha hj => by
        rw [hR m (r + 21) (by rw [km]; decide) (by omega) (by omega)] at ha
        have h9 := rk11 hs km hr ha
        have h8 : I8 a2 j = I a2 j := by rcases h9 with z | z | z | z <;> exact (hf8 a2 j (by rw [z]; decide) (by rw [z]; rfl)).trans (hf4.get z rfl)
        rw [h8]; exact rdm r j a2 hr ha (by omega)
      have lcn : LC x h lk rd m K8 I8 R8 := ⟨huu8, DA, lcb2, EA, kc2, rdm2⟩
      refine r_pop hC dL_law_286 rfl ?_
      refine r_goto hC (tgt := 1253) dL_law_287 (by decide) ?_
      refine r_sub [0, 1, 2, 3, 4] rfl ?_
      refine r_widen hC (k2 := cn + 18) (n2 := sn + 231) (by omega) (by omega) ?_
      exact kk K8 len8 I8 J8 R8 ⟨hs8, la2, ⟨h, s, lk, ls, ⟨⟨g2.trans qa, kk2 h 2 kh (by decide)⟩, ⟨g3.trans qb, kk2 s 2 ks (by decide)⟩, ⟨gh, kk2 lk 3 klk (by decide)⟩, ⟨gs, kk2 ls 3 kls (by decide)⟩, nhs, nls⟩, lrn, lcn⟩, fun j hj => absurd hj (by rw [v_tp1]; omega), lvn⟩
    · exfalso; rw [qs] at ps; cases ps
  · rcases k8 with ⟨pr_, p1, p2, p6, p12, p20, p3⟩ | ⟨pr_, ⟨kf2, qf2, ps, p1, p2, p12, p6, p20, p3⟩ | ⟨D2, q2, ps, p1, p2, p12, p6, p20, p3, pk, psm, prw, pdj, pdi⟩⟩
    · exfalso; omega
    · exfalso; rw [qs] at ps; cases ps
    · rw [qs] at ps; cases ps
      have lvn : LV x m tp te I8 := by unfold LV; rw [v_tp1, v_te5, v_te6, v_x12]; exact ⟨by omega, by omega, fun z => by omega, fun _ => by omega⟩
      obtain ⟨gdi, gd0, gd5, gd7⟩ := sHill_go 902 0 D0 D (Nat.zero_le _) DI_0 qs
      obtain ⟨hd0, ⟨hd1, hd2⟩, ⟨hd3, hd4⟩, ⟨hd5, hd6⟩, ⟨hd7, hd8⟩, ⟨hd9, hd10⟩, hd11, hd12⟩ := id gdi
      obtain ⟨rs0, rs1, rs2, rs3, rs4, rs5, rs6, rs7, rs8, rs9, rs10⟩ := id qrep.1
      obtain ⟨sf0, sf3, sf4, sf5, sf6, sf7, sf8, sf9, sf10⟩ := id psm
      have u_s1 : (I8 s 1).toInt = (I4 s 1).toInt := by rw [v_s1]
      have u_s4 : (I8 s 4).toInt = (I4 s 4).toInt := by rw [v_s4]
      have u_s6 : (I8 s 6).toInt = (I4 s 6).toInt := by rw [v_s6]
      have u_s8 : (I8 s 8).toInt = (I4 s 8).toInt := by rw [v_s8]
      have u_s12 : (I8 s 12).toInt = (I4 s 12).toInt := by rw [v_s12]
      have u_ls1 : (I8 ls 1).toInt = (I4 ls 1).toInt := by rw [v_ls1]
      have u_ls3 : (I8 ls 3).toInt = (I4 ls 3).toInt := by rw [v_ls3]
      have u_ls4 : (I8 ls 4).toInt = (I4 ls 4).toInt := by rw [v_ls4]
      have u_ls5 : (I8 ls 5).toInt = (I4 ls 5).toInt := by rw [v_ls5]
      have u_rd0 : (I8 rd 0).toInt = (I4 rd 0).toInt := by rw [v_rd0]
      rcases sf0 with ⟨z0, -⟩ | ⟨-, s01, -, s02, s03⟩
      · exact absurd z0 gd0
      have lrn : LR s ls rd m K8 I8 R8 := ⟨(u_rd0.trans qd).trans p20.symm, Or.inr ⟨q2, p3, pk, by rw [u_s6, rs7]; exact pos7 hd3 gd7, u_s1.trans (rs5.trans sf3.symm), u_s4.trans (rs6.trans sf6.symm), u_s6.trans (rs7.trans sf7.symm), u_s8.trans (rs8.trans sf8.symm), u_s12.trans (rs9.trans sf9.symm), u_ls1.trans (rs1.trans s01.symm), u_ls3.trans (rs3.trans s03.symm), u_ls4.trans (rs4.trans sf4.symm), by rw [u_ls5, qz, sf4, sf5]; exact (Int.sub_self _).symm⟩⟩
      have eC : ∀ b k, qC (K b) = true → I8 b k = I4 b k := fun b k z => hf8 b k (q0C z) (okQ_in (q := qC) rfl qC_big z k)
      have n9 : ∀ b, K b = 2 ∨ K b = 3 ∨ K b = 45 → K b ≠ 0 ∧ K b ≠ 9 ∧ K b ≠ 11 := fun b z => by rcases z with z | z | z <;> rw [z] <;> decide
      have eR : ∀ b k, K b = 2 ∨ K b = 3 ∨ K b = 45 → R8 b k = R b k := fun b k z => hR b k (n9 b z).1 (fun y => (n9 b z).2.1 y.1) (fun y => (n9 b z).2.2 y.1)
      have eRn : ∀ b k, K b = 2 ∨ K b = 3 ∨ K b = 45 → R8 b k = R4 b k := fun b k z => hfR8 b k (n9 b z).1 (in_113 (fun y => (n9 b z).2.2 y.1))
      have hcx := CC_x hs kh klk hu
      have hcs := CC_x hs4 ks kls hu4
      have lcb2 : LCb x s ls m D K8 I8 R8 := by
        refine ⟨(qrw.eq (fun r j b k hc => eC b k (hcs.1 r j b k hc))).toR hs4 ks kls eRn, ⟨by rw [v_ls1]; exact rs1, by rw [v_ls2]; exact rs2, by rw [v_ls3]; exact rs3, by rw [v_ls4]; exact rs4, by rw [v_s1]; exact rs5, by rw [v_s6]; exact rs7, by rw [v_s8]; exact rs8, by rw [v_s12]; exact rs9⟩, fun hm z => ?_⟩
        rw [p3] at z; cases z
        exact ⟨pk, qdj, prw, ⟨s01, s02, s03, sf4, sf3, sf7, sf8, sf9⟩, fun l2 zl => by rw [(hR x 4 (by rw [kx]; decide) (fun y => by omega) (fun y => by rw [kx] at y; omega)), hlw] at zl; cases zl; exact qlr.eq (fun j => (hf8 lw j (by rw [klw]; decide) (by rw [klw]; rfl)))⟩
      have kc2 : KC D EA x s ls rd I8 R8 := ⟨lcb2.1, lcb2.2.1, fun z7 => ⟨qdj, by omega, fun l2 zl => by rw [(hR x 4 (by rw [kx]; decide) (fun y => by omega) (fun y => by rw [kx] at y; omega)), hlw] at zl; cases zl; exact qlr.eq (fun j => (hf8 lw j (by rw [klw]; decide) (by rw [klw]; rfl)))⟩, KN_0 (fun kn2 zl j hj => by rw [hR x 6 (by rw [kx]; decide) (by omega) (by omega), hkn] at zl; cases zl; rw [hf8 kn j (by rw [kkn]; decide) (by rw [kkn]; rfl)]; exact qkz j hj), fun r j a2 hr ha hj => by exfalso; rw [v_rd0] at hj; omega, fun j hj => by exfalso; rw [v_rd0] at hj; omega⟩
      have lcn : LC x s ls rd m K8 I8 R8 := ⟨huu8, D, lcb2, EA, kc2, fun r j a2 hr ha hj => by exfalso; omega⟩
      refine r_pop hC dL_law_286 rfl ?_
      refine r_goto hC (tgt := 1253) dL_law_287 (by decide) ?_
      refine r_sub [0, 1, 2, 3, 4] rfl ?_
      refine r_widen hC (k2 := cn + 18) (n2 := sn + 231) (by omega) (by omega) ?_
      exact kk K8 len8 I8 J8 R8 ⟨hs8, la2, ⟨s, h, ls, lk, ⟨⟨g2.trans qa, kk2 s 2 ks (by decide)⟩, ⟨g3.trans qb, kk2 h 2 kh (by decide)⟩, ⟨gs, kk2 ls 3 kls (by decide)⟩, ⟨gh, kk2 lk 3 klk (by decide)⟩, Ne.symm nhs, Ne.symm nls⟩, lrn, lcn⟩, fun j hj => absurd hj (by rw [v_tp1]; omega), lvn⟩
set_option maxHeartbeats 4000000 in
set_option maxRecDepth 100000 in
theorem law_2 {g : GG} {X : XT} {b L : Nat} {xs : Nat → Int32} (hX : LX g X b L xs) {x m o tp bt te tk nr pr rd mt cn sn : Nat} {i : Int32} {K len : Nat → Nat} {I : Nat → Nat → Int32} {J : Nat → Nat → Int64} {R : Nat → Nat → Option Nat} (hI : LI x m o tp bt te tk nr pr rd mt K len I R) (hi : 0 ≤ i.toInt) (hiL : i.toInt + 6 ≤ L) (hcn : cn + 18 ≤ 601024) (hsn : sn + 231 ≤ 7293034) (kk : ∀ K' len' I' J' R', LI x m o tp bt te tk nr pr rd mt K' len' I' R' → P g X 7 1253 [(0, .ref b), (1, .ref x), (2, .ref m), (3, .ref o), (4, .int i)] [] (cn + 18) (sn + 231) (K', len', I', J', R')) : P g X 7 290 [(0, .ref b), (1, .ref x), (2, .ref m), (3, .ref o), (4, .int i)] [] cn sn (K, len, I, J, R) := by
  obtain ⟨hC, hcs, hl, hXs, hb, hbA, hL⟩ := hX
  obtain ⟨hs, la, ⟨h, s, lk, ls, lh, lr, lc⟩, lb, lv⟩ := id hI
  obtain ⟨hu, DA, lcb, EA, kc, rdm⟩ := id lc
  obtain ⟨rwd, scd, lcm⟩ := id lcb
  obtain ⟨sd1, sd2, sd3, sd4, sd5, sd7, sd8, sd9⟩ := id scd
  obtain ⟨kx, km, ⟨ko, no⟩, ⟨htp, ktp⟩, ⟨hbb, kbt, nbt⟩, ⟨hte, kte⟩, ⟨htk, ktk⟩, hbt, ⟨hnr, knr, lnr⟩, ⟨hpr, kpr, lpr⟩, ⟨hrd, krd⟩, ⟨hmt, kmt, nmt⟩⟩ := id la
  obtain ⟨⟨hh, kh⟩, ⟨hs2, ks⟩, ⟨hlk2, klk⟩, ⟨hls, kls⟩, nhs, nls⟩ := id lh
  obtain ⟨lv1, lv2, lv3, lv4⟩ := id lv
  obtain ⟨lw, hlw, klw, llw⟩ := hs.row kx 4 41 60 (by decide) (by decide)
  obtain ⟨kn, hkn, kkn, lkn⟩ := hs.row kx 6 43 6 (by decide) (by decide)
  obtain ⟨cr, hcr, kcr1, lcr⟩ := hs.row kx 5 44 6 (by decide) (by decide)
  have ka : KA x h lk rd K len R := ⟨⟨_, hs⟩, hu, kx, kh, klk, krd⟩
  have rdb9 := hs.rng krd (k := 0) rfl (x := I rd 0) rfl
  obtain ⟨tl, htl, ktl, ltl⟩ := hs.row kx 7 41 60 (by decide) (by decide)
  obtain ⟨lrw, hlrw, klrw, llrw⟩ := hs.row km 15 85 60 (by decide) (by decide)
  have nlt : lw ≠ tl := hu.ne hlw htl (by rw [klw]; decide) (Or.inr (by decide))
  refine r_aload_n hC dL_law_290 1 rfl ?_
  refine r_callV hC (As := []) (rest := []) (ci := 8) (f_X8_fault g (xL X) K len I J R hs x kx  te hte kte) mT_3_119 mT_1_1 mT_3_116 mT_3_117 mT_3_118 okX8_fault ⟨by decide, by decide⟩ rfl (by show kO (K x) = _; rw [kx]; rfl) rfl rfl (Nat.le_of_ble_eq_true rfl) ⟨Nat.le_trans (show cn + 0 ≤ cn + 18 from Nat.add_le_add_left (by decide) cn) hcn, Nat.le_trans (show sn + 0 ≤ sn + 231 from Nat.add_le_add_left (by decide) sn) hsn⟩ dL_law_291 (aI0 (F := fun st M => P g X 7 294 [(0, .ref b), (1, .ref x), (2, .ref m), (3, .ref o), (4, .int i)] st _ _ M) (M := (K, len, I, J, R)) fun x1_  h1 => ?_)
  have k1_0 := h1
  show P g X 7 294 [(0, .ref b), (1, .ref x), (2, .ref m), (3, .ref o), (4, .int i)] [.int x1_] cn sn (K, len, I, J, R)
  refine r_pop hC dL_law_294 rfl ?_
  refine r_aload_n hC dL_law_295 2 rfl ?_
  refine r_callV hC (As := []) (rest := []) (ci := 10) (f_X10_fault g (xL X) K len I J R hs m km ) mT_6_83 mT_1_10 mT_6_80 mT_6_81 mT_6_82 okX10_fault ⟨by decide, by decide⟩ rfl (by show kO (K m) = _; rw [km]; rfl) rfl rfl (Nat.le_of_ble_eq_true rfl) ⟨Nat.le_trans (show cn + 0 ≤ cn + 18 from Nat.add_le_add_left (by decide) cn) hcn, Nat.le_trans (show sn + 0 ≤ sn + 231 from Nat.add_le_add_left (by decide) sn) hsn⟩ dL_law_296 (aI1 (F := fun st M => P g X 7 299 [(0, .ref b), (1, .ref x), (2, .ref m), (3, .ref o), (4, .int i)] st _ _ M) (M := (K, len, I, J, R)) fun x2_ I2 h2 => ?_)
  obtain ⟨hs2, hf2, k2_0⟩ := h2
  show P g X 7 299 [(0, .ref b), (1, .ref x), (2, .ref m), (3, .ref o), (4, .int i)] [.int x2_] cn sn (K, len, I2, J, R)
  refine r_pop hC dL_law_299 rfl ?_
  refine r_goto hC (tgt := 1253) dL_law_300 (by decide) ?_
  refine r_sub [0, 1, 2, 3, 4] rfl ?_
  refine r_widen hC (k2 := cn + 18) (n2 := sn + 231) (by omega) (by omega) ?_
  exact kk K len I2 J R (hI.sil hs2 (Fr.refl (l := [])) hf2 rfl rfl rfl rfl rfl rfl rfl rfl rfl rfl)

