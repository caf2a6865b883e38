section LAWROWS
variable {g : GG} {X : XT} {cc : ByteArray} {own : String} {nL : Nat} {rm : Room} {pc : Nat} {lv : List (Nat × Value)} {st : List Value} {cn sn : Nat} {M : MM} {b L : Nat} {xs : Nat → Int32}
theorem r_sld (hC : Cx g X cc own nL rm) (hX : va_X b L xs (xS X) (xS X).heap) (hb : b < (xS X).heap.size) (hbA : ¬ Areg (xK X) (xS X).heap.size b) {i : Int32} (h0 : 0 ≤ i.toInt) (h1 : i.toInt < L) (hd : decode cc pc = .ok (.iaload, 1))
    (kk : ∀ v, v = xs i.toNatClampNeg → P g X nL (pc + 1) lv (.int v :: st) cn sn M) : P g X nL pc lv (.int i :: .ref b :: st) cn sn M := by
  intro H locs ls hw hS hl
  refine va_sld hC.1 hC.2.1 hX hb hbA hS ?_ hd (kk _ rfl H locs ls hw hS hl)
  have hc := clampI h0
  rintro (h | h)
  · have := Int32.lt_iff_toInt_lt.mp h
    have e0 : (0 : Int32).toInt = 0 := rfl
    omega
  · omega
theorem r_slen (hC : Cx g X cc own nL rm) (hX : va_X b L xs (xS X) (xS X).heap) (hb : b < (xS X).heap.size) (hbA : ¬ Areg (xK X) (xS X).heap.size b) (hL : L ≤ 3072) (hd : decode cc pc = .ok (.arraylength, 1))
    (kk : ∀ v : Int32, v.toInt = L → P g X nL (pc + 1) lv (.int v :: st) cn sn M) : P g X nL pc lv (.ref b :: st) cn sn M := by
  intro H locs ls hw hS hl
  refine va_slen hC.1 hC.2.1 hX hb hbA hS hd (kk _ ?_ H locs ls hw hS hl)
  have hz : Int32.size = 4294967296 := rfl
  rw [Int32.toInt_ofNat', Int.bmod_eq_of_le (by omega) (by omega)]
theorem sld_eq {xs : Nat → Int32} {u v i j : Int32} (h1 : u = xs i.toNatClampNeg) (h2 : v = xs j.toNatClampNeg) (h : i.toInt = j.toInt) : u = v := by rw [h1, h2, Int32.toInt_inj.mp h]
end LAWROWS
/-- what holds through the law's body -/
def LX (g : GG) (X : XT) (b L : Nat) (xs : Nat → Int32) : Prop := Cx g X cL_law "HillTapLaw" 7 room_1 ∧ Cst (xS X) ∧ (xL X).stackTraces = false ∧ va_X b L xs (xS X) (xS X).heap ∧ b < (xS X).heap.size ∧ ¬ Areg (xK X) (xS X).heap.size b ∧ L ≤ 3072
set_option maxHeartbeats 4000000 in
set_option maxRecDepth 100000 in
theorem law_0 {g : GG} {X : XT} {b L : Nat} {xs : Nat → Int32} (hX : LX g X b L xs) {x m o tp bt te tk nr pr rd mt cn sn : Nat} {i : Int32} {K len : Nat → Nat} {I : Nat → Nat → Int32} {J : Nat → Nat → Int64} {R : Nat → Nat → Option Nat} (hI : LI x m o tp bt te tk nr pr rd mt K len I R) (hi : 0 ≤ i.toInt) (hiL : i.toInt + 6 ≤ L) (hcn : cn + 18 ≤ 601024) (hsn : sn + 231 ≤ 7293034) (kk : ∀ K' len' I' J' R', LI x m o tp bt te tk nr pr rd mt K' len' I' R' → P g X 7 1253 [(0, .ref b), (1, .ref x), (2, .ref m), (3, .ref o), (4, .int i)] [] (cn + 18) (sn + 231) (K', len', I', J', R')) : P g X 7 192 [(0, .ref b), (1, .ref x), (2, .ref m), (3, .ref o), (4, .int i)] [] cn sn (K, len, I, J, R) := by
  obtain ⟨hC, hcs, hl, hXs, hb, hbA, hL⟩ := hX
  obtain ⟨hs, la, ⟨h, s, lk, ls, lh, lr, lc⟩, lb, lv⟩ := id hI
  obtain ⟨hu, DA, lcb, EA, kc, rdm⟩ := id lc
  obtain ⟨rwd, scd, lcm⟩ := id lcb
  obtain ⟨sd1, sd2, sd3, sd4, sd5, sd7, sd8, sd9⟩ := id scd
  obtain ⟨kx, km, ⟨ko, no⟩, ⟨htp, ktp⟩, ⟨hbb, kbt, nbt⟩, ⟨hte, kte⟩, ⟨htk, ktk⟩, hbt, ⟨hnr, knr, lnr⟩, ⟨hpr, kpr, lpr⟩, ⟨hrd, krd⟩, ⟨hmt, kmt, nmt⟩⟩ := id la
  obtain ⟨⟨hh, kh⟩, ⟨hs2, ks⟩, ⟨hlk2, klk⟩, ⟨hls, kls⟩, nhs, nls⟩ := id lh
  obtain ⟨lv1, lv2, lv3, lv4⟩ := id lv
  obtain ⟨lw, hlw, klw, llw⟩ := hs.row kx 4 41 60 (by decide) (by decide)
  obtain ⟨kn, hkn, kkn, lkn⟩ := hs.row kx 6 43 6 (by decide) (by decide)
  obtain ⟨cr, hcr, kcr1, lcr⟩ := hs.row kx 5 44 6 (by decide) (by decide)
  have ka : KA x h lk rd K len R := ⟨⟨_, hs⟩, hu, kx, kh, klk, krd⟩
  have rdb9 := hs.rng krd (k := 0) rfl (x := I rd 0) rfl
  obtain ⟨tl, htl, ktl, ltl⟩ := hs.row kx 7 41 60 (by decide) (by decide)
  obtain ⟨lrw, hlrw, klrw, llrw⟩ := hs.row km 15 85 60 (by decide) (by decide)
  have nlt : lw ≠ tl := hu.ne hlw htl (by rw [klw]; decide) (Or.inr (by decide))
  refine r_aload_n hC dL_law_192 1 rfl ?_
  refine r_aload_n hC dL_law_193 0 rfl ?_
  refine r_iload hC dL_law_194 4 rfl ?_
  refine r_iconst hC (v := (1)) dL_law_196 (by decide) (by decide) (fun x1_ e1 t1 => ?_)
  refine r_iadd hC dL_law_197 (fun x2_ e2 => ?_)
  have t2 : x2_.toInt = i.toInt + 1 := sAd e2 t1 (by decide) (by decide) hi hiL hL
  refine r_sld hC hXs hb hbA (sLo t2 (by decide) hi) (sHi t2 (by decide) hiL) dL_law_198 (fun x3_ e3 => ?_)
  refine r_aload_n hC dL_law_199 0 rfl ?_
  refine r_iload hC dL_law_200 4 rfl ?_
  refine r_iconst hC (v := (2)) dL_law_202 (by decide) (by decide) (fun x4_ e4 t4 => ?_)
  refine r_iadd hC dL_law_203 (fun x5_ e5 => ?_)
  have t5 : x5_.toInt = i.toInt + 2 := sAd e5 t4 (by decide) (by decide) hi hiL hL
  refine r_sld hC hXs hb hbA (sLo t5 (by decide) hi) (sHi t5 (by decide) hiL) dL_law_204 (fun x6_ e6 => ?_)
  refine r_aload_n hC dL_law_205 0 rfl ?_
  refine r_iload hC dL_law_206 4 rfl ?_
  refine r_iconst hC (v := (3)) dL_law_208 (by decide) (by decide) (fun x7_ e7 t7 => ?_)
  refine r_iadd hC dL_law_209 (fun x8_ e8 => ?_)
  have t8 : x8_.toInt = i.toInt + 3 := sAd e8 t7 (by decide) (by decide) hi hiL hL
  refine r_sld hC hXs hb hbA (sLo t8 (by decide) hi) (sHi t8 (by decide) hiL) dL_law_210 (fun x9_ e9 => ?_)
  refine r_aload_n hC dL_law_211 0 rfl ?_
  refine r_iload hC dL_law_212 4 rfl ?_
  refine r_iconst hC (v := (4)) dL_law_214 (by decide) (by decide) (fun x10_ e10 t10 => ?_)
  refine r_iadd hC dL_law_215 (fun x11_ e11 => ?_)
  have t11 : x11_.toInt = i.toInt + 4 := sAd e11 t10 (by decide) (by decide) hi hiL hL
  refine r_sld hC hXs hb hbA (sLo t11 (by decide) hi) (sHi t11 (by decide) hiL) dL_law_216 (fun x12_ e12 => ?_)
  refine r_aload_n hC dL_law_217 0 rfl ?_
  refine r_iload hC dL_law_218 4 rfl ?_
  refine r_iconst hC (v := (5)) dL_law_220 (by decide) (by decide) (fun x13_ e13 t13 => ?_)
  refine r_iadd hC dL_law_221 (fun x14_ e14 => ?_)
  have t14 : x14_.toInt = i.toInt + 5 := sAd e14 t13 (by decide) (by decide) hi hiL hL
  refine r_sld hC hXs hb hbA (sLo t14 (by decide) hi) (sHi t14 (by decide) hiL) dL_law_222 (fun x15_ e15 => ?_)
  have rt := hs.rng ktp (k := 1) rfl (x := I tp 1) rfl
  refine r_callV hC (As := [.int x3_, .int x6_, .int x9_, .int x12_, .int x15_]) (rest := []) (ci := 8) (f_X8_feed g (xL X) K len I J R hs x kx x3_ x6_ x9_ x12_ x15_ tp htp ktp bt hbb kbt nbt (I tp 1).toInt.toNat (by omega)) mT_2_121 mT_1_1 mT_2_118 mT_2_119 mT_2_120 okX8_feed ⟨by decide, by decide⟩ rfl (by show kO (K x) = _; rw [kx]; rfl) rfl rfl (Nat.le_of_ble_eq_true rfl) ⟨Nat.le_trans (show cn + 0 ≤ cn + 18 from Nat.add_le_add_left (by decide) cn) hcn, Nat.le_trans (show sn + 0 ≤ sn + 231 from Nat.add_le_add_left (by decide) sn) hsn⟩ dL_law_223 (aI1 (F := fun st M => P g X 7 226 [(0, .ref b), (1, .ref x), (2, .ref m), (3, .ref o), (4, .int i)] st _ _ M) (M := (K, len, I, J, R)) fun x16_ I16 h16 => ?_)
  obtain ⟨hs16, hf16, k16_0⟩ := h16
  show P g X 7 226 [(0, .ref b), (1, .ref x), (2, .ref m), (3, .ref o), (4, .int i)] [.int x16_] cn sn (K, len, I16, J, R)
  refine r_pop hC dL_law_226 rfl ?_
  refine r_aload_n hC dL_law_227 2 rfl ?_
  refine r_aload_n hC dL_law_228 0 rfl ?_
  refine r_iload hC dL_law_229 4 rfl ?_
  refine r_iconst hC (v := (1)) dL_law_231 (by decide) (by decide) (fun x17_ e17 t17 => ?_)
  refine r_iadd hC dL_law_232 (fun x18_ e18 => ?_)
  have t18 : x18_.toInt = i.toInt + 1 := sAd e18 t17 (by decide) (by decide) hi hiL hL
  refine r_sld hC hXs hb hbA (sLo t18 (by decide) hi) (sHi t18 (by decide) hiL) dL_law_233 (fun x19_ e19 => ?_)
  obtain rfl : x3_ = x19_ := sld_eq e3 e19 (t2.trans t18.symm)
  refine r_aload_n hC dL_law_234 0 rfl ?_
  refine r_iload hC dL_law_235 4 rfl ?_
  refine r_iconst hC (v := (2)) dL_law_237 (by decide) (by decide) (fun x20_ e20 t20 => ?_)
  refine r_iadd hC dL_law_238 (fun x21_ e21 => ?_)
  have t21 : x21_.toInt = i.toInt + 2 := sAd e21 t20 (by decide) (by decide) hi hiL hL
  refine r_sld hC hXs hb hbA (sLo t21 (by decide) hi) (sHi t21 (by decide) hiL) dL_law_239 (fun x22_ e22 => ?_)
  obtain rfl : x6_ = x22_ := sld_eq e6 e22 (t5.trans t21.symm)
  refine r_aload_n hC dL_law_240 0 rfl ?_
  refine r_iload hC dL_law_241 4 rfl ?_
  refine r_iconst hC (v := (3)) dL_law_243 (by decide) (by decide) (fun x23_ e23 t23 => ?_)
  refine r_iadd hC dL_law_244 (fun x24_ e24 => ?_)
  have t24 : x24_.toInt = i.toInt + 3 := sAd e24 t23 (by decide) (by decide) hi hiL hL
  refine r_sld hC hXs hb hbA (sLo t24 (by decide) hi) (sHi t24 (by decide) hiL) dL_law_245 (fun x25_ e25 => ?_)
  obtain rfl : x9_ = x25_ := sld_eq e9 e25 (t8.trans t24.symm)
  refine r_aload_n hC dL_law_246 0 rfl ?_
  refine r_iload hC dL_law_247 4 rfl ?_
  refine r_iconst hC (v := (4)) dL_law_249 (by decide) (by decide) (fun x26_ e26 t26 => ?_)
  refine r_iadd hC dL_law_250 (fun x27_ e27 => ?_)
  have t27 : x27_.toInt = i.toInt + 4 := sAd e27 t26 (by decide) (by decide) hi hiL hL
  refine r_sld hC hXs hb hbA (sLo t27 (by decide) hi) (sHi t27 (by decide) hiL) dL_law_251 (fun x28_ e28 => ?_)
  obtain rfl : x12_ = x28_ := sld_eq e12 e28 (t11.trans t27.symm)
  refine r_aload_n hC dL_law_252 0 rfl ?_
  refine r_iload hC dL_law_253 4 rfl ?_
  refine r_iconst hC (v := (5)) dL_law_255 (by decide) (by decide) (fun x29_ e29 t29 => ?_)
  refine r_iadd hC dL_law_256 (fun x30_ e30 => ?_)
  have t30 : x30_.toInt = i.toInt + 5 := sAd e30 t29 (by decide) (by decide) hi hiL hL
  refine r_sld hC hXs hb hbA (sLo t30 (by decide) hi) (sHi t30 (by decide) hiL) dL_law_257 (fun x31_ e31 => ?_)
  obtain rfl : x15_ = x31_ := sld_eq e15 e31 (t14.trans t30.symm)
  have m6 : (I16 m 6).toInt = (I m 6).toInt := congrArg Int32.toInt (hf16.get km rfl)
  refine r_callV hC (As := [.int x3_, .int x6_, .int x9_, .int x12_, .int x15_]) (rest := []) (ci := 10) (f_X10_feed g (xL X) K len I16 J R hs16 m km x3_ x6_ x9_ x12_ x15_ mt hmt kmt nmt (I tp 1).toInt.toNat (by omega)) mT_5_77 mT_1_10 mT_5_74 mT_5_75 mT_5_76 okX10_feed ⟨by decide, by decide⟩ rfl (by show kO (K m) = _; rw [km]; rfl) rfl rfl (Nat.le_of_ble_eq_true rfl) ⟨Nat.le_trans (show cn + 0 ≤ cn + 18 from Nat.add_le_add_left (by decide) cn) hcn, Nat.le_trans (show sn + 0 ≤ sn + 231 from Nat.add_le_add_left (by decide) sn) hsn⟩ dL_law_258 (aI1 (F := fun st M => P g X 7 261 [(0, .ref b), (1, .ref x), (2, .ref m), (3, .ref o), (4, .int i)] st _ _ M) (M := (K, len, I16, J, R)) fun x32_ I32 h32 => ?_)
  obtain ⟨hs32, hf32, k32_0⟩ := h32
  show P g X 7 261 [(0, .ref b), (1, .ref x), (2, .ref m), (3, .ref o), (4, .int i)] [.int x32_] cn sn (K, len, I32, J, R)
  have v_te5 : I32 te 5 = I te 5 := (hf32.get kte rfl).trans (hf16.get kte rfl)
  have v_te6 : I32 te 6 = I te 6 := (hf32.get kte rfl).trans (hf16.get kte rfl)
  have v_x12 : I32 x 12 = I x 12 := (hf32.get kx rfl).trans (hf16.get kx rfl)
  have v_m12 : I32 m 12 = I m 12 := (hf32.get km rfl).trans (hf16.get km rfl)
  have v_m2 : I32 m 2 = I m 2 := (hf32.get km rfl).trans (hf16.get km rfl)
  have v_tp : I32 tp 1 = I16 tp 1 := hf32.get ktp rfl
  have v_m6 : I16 m 6 = I m 6 := hf16.get km rfl
  have e1 : I16 mt = I mt := funext fun j => hf16.get kmt rfl
  have e2 : I32 bt = I16 bt := funext fun j => hf32.get kbt rfl
  rcases k16_0 with ⟨qn, q1⟩ | ⟨qn, q1, qb⟩
  · rcases k32_0 with ⟨pn, p1, pb⟩ | ⟨pn, p1, pb⟩
    · have q2 : (I16 tp 1).toInt = (I tp 1).toInt := by rw [q1]
      have lvn : LV x m tp te I32 := by unfold LV; rw [v_te5, v_te6, v_x12, v_m12, v_m2, v_tp]; exact ⟨by omega, lv2, lv3, lv4⟩
      refine r_pop hC dL_law_261 rfl ?_
      refine r_goto hC (tgt := 1253) dL_law_262 (by decide) ?_
      refine r_sub [0, 1, 2, 3, 4] rfl ?_
      refine r_widen hC (k2 := cn + 18) (n2 := sn + 231) (by omega) (by omega) ?_
      exact kk K len I32 J R ⟨hs32, la, ⟨h, s, lk, ls, lh, (lr.mv hf16 kh klk krd km rfl).mv hf32 kh klk krd km rfl, (lc.mv hs kx km krd hf16 kh klk rfl).mv hs kx km krd hf32 kh klk rfl⟩, (fun j hj => by rw [v_tp, q1] at hj; rw [pb, e1, e2, q1]; exact lb j hj), lvn⟩
    · exfalso; omega
  · rcases k32_0 with ⟨pn, p1, pb⟩ | ⟨pn, p1, pb⟩
    · exfalso; omega
    · have lvn : LV x m tp te I32 := by unfold LV; rw [v_te5, v_te6, v_x12, v_m12, v_m2, v_tp]; exact ⟨by omega, lv2, lv3, lv4⟩
      refine r_pop hC dL_law_261 rfl ?_
      refine r_goto hC (tgt := 1253) dL_law_262 (by decide) ?_
      refine r_sub [0, 1, 2, 3, 4] rfl ?_
      refine r_widen hC (k2 := cn + 18) (n2 := sn + 231) (by omega) (by omega) ?_
      exact kk K len I32 J R ⟨hs32, la, ⟨h, s, lk, ls, lh, (lr.mv hf16 kh klk krd km rfl).mv hf32 kh klk krd km rfl, (lc.mv hs kx km krd hf16 kh klk rfl).mv hs kx km krd hf32 kh klk rfl⟩, lb.feed (by omega) qb e1 pb e2 (by rw [v_tp]; exact q1) (fun _ => fb_rng), lvn⟩

