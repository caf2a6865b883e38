section LAWROWS
variable {g : GG} {X : XT} {cc : ByteArray} {own : String} {nL : Nat} {rm : Room} {pc : Nat} {lv : List (Nat × Value)} {st : List Value} {cn sn : Nat} {M : MM} {b L : Nat} {xs : Nat → Int32}
theorem r_sld (hC : Cx g X cc own nL rm) (hX : va_X b L xs (xS X) (xS X).heap) (hb : b < (xS X).heap.size) (hbA : ¬ Areg (xK X) (xS X).heap.size b) {i : Int32} (h0 : 0 ≤ i.toInt) (h1 : i.toInt < L) (hd : decode cc pc = .ok (.iaload, 1))
    (kk : ∀ v, v = xs i.toNatClampNeg → P g X nL (pc + 1) lv (.int v :: st) cn sn M) : P g X nL pc lv (.int i :: .ref b :: st) cn sn M := by
  intro H locs ls hw hS hl
  refine va_sld hC.1 hC.2.1 hX hb hbA hS ?_ hd (kk _ rfl H locs ls hw hS hl)
  have hc := clampI h0
  rintro (h | h)
  · have := Int32.lt_iff_toInt_lt.mp h
    have e0 : (0 : Int32).toInt = 0 := rfl
    omega
  · omega
theorem r_slen (hC : Cx g X cc own nL rm) (hX : va_X b L xs (xS X) (xS X).heap) (hb : b < (xS X).heap.size) (hbA : ¬ Areg (xK X) (xS X).heap.size b) (hL : L ≤ 3072) (hd : decode cc pc = .ok (.arraylength, 1))
    (kk : ∀ v : Int32, v.toInt = L → P g X nL (pc + 1) lv (.int v :: st) cn sn M) : P g X nL pc lv (.ref b :: st) cn sn M := by
  intro H locs ls hw hS hl
  refine va_slen hC.1 hC.2.1 hX hb hbA hS hd (kk _ ?_ H locs ls hw hS hl)
  have hz : Int32.size = 4294967296 := rfl
  rw [Int32.toInt_ofNat', Int.bmod_eq_of_le (by omega) (by omega)]
theorem sld_eq {xs : Nat → Int32} {u v i j : Int32} (h1 : u = xs i.toNatClampNeg) (h2 : v = xs j.toNatClampNeg) (h : i.toInt = j.toInt) : u = v := by rw [h1, h2, Int32.toInt_inj.mp h]
end LAWROWS
/-- what holds through the law's body -/
def LX (g : GG) (X : XT) (b L : Nat) (xs : Nat → Int32) : Prop := Cx g X cL_law "HillTapLaw" 7 room_1 ∧ Cst (xS X) ∧ (xL X).stackTraces = false ∧ va_X b L xs (xS X) (xS X).heap ∧ b < (xS X).heap.size ∧ ¬ Areg (xK X) (xS X).heap.size b ∧ L ≤ 3072
set_option maxHeartbeats 4000000 in
set_option maxRecDepth 100000 in
theorem law_0 {g : GG} {X : XT} {b L : Nat} {xs : Nat → Int32} (hX : LX g X b L xs) {x m o tp bt te tk nr pr rd mt cn sn : Nat} {i : Int32} {K len : Nat → Nat} {I : Nat → Nat → Int32} {J : Nat → Nat → Int64} {R : Nat → Nat → Option Nat} (hI : LI x m o tp bt te tk nr pr rd mt K len I R) (hi : 0 ≤ i.toInt) (hiL : i.toInt + 6 ≤ L) (hcn : cn + 18 ≤ 601024) (hsn : sn + 231 ≤ 7293034) (kk : ∀ K' len' I' J' R', LI x m o tp bt te tk nr pr rd mt K' len' I' R' → P g X 7 1253 [(0, .ref b), (1, .ref x), (2, .ref m), (3, .ref o), (4, .int i)] [] (cn + 18) (sn + 231) (K', len', I', J', R')) : P g X 7 192 [(0, .ref b), (1, .ref x), (2, .ref m), (3, .ref o), (4, .int i)] [] cn sn (K, len, I, J, R) := by
  obtain ⟨hC, hcs, hl, hXs, hb, hbA, hL⟩ := hX
  obtain ⟨hs, la, ⟨h, s, lk, ls, lh, lr, lc⟩, lb, lv⟩ := id hI
  obtain ⟨hu, DA, rwd, scd, lcm⟩ := id lc
  obtain ⟨sd1, sd2, sd3, sd4, sd5, sd7, sd8, sd9⟩ := id scd
  obtain ⟨kx, km, ⟨ko, no⟩, ⟨htp, ktp⟩, ⟨hbb, kbt, nbt⟩, ⟨hte, kte⟩, ⟨htk, ktk⟩, hbt, ⟨hnr, knr, lnr⟩, ⟨hpr, kpr, lpr⟩, ⟨hrd, krd⟩, ⟨hmt, kmt, nmt⟩⟩ := id la
  obtain ⟨⟨hh, kh⟩, ⟨hs2, ks⟩, ⟨hlk2, klk⟩, ⟨hls, kls⟩, nhs, nls⟩ := id lh
  obtain ⟨lv1, lv2, lv3, lv4⟩ := id lv
  obtain ⟨lw, hlw, klw, llw⟩ := hs.row kx 4 41 60 (by decide) (by decide)
  obtain ⟨kn, hkn, kkn, lkn⟩ := hs.row kx 6 43 6 (by decide) (by decide)
  obtain ⟨tl, htl, ktl, ltl⟩ := hs.row kx 7 41 60 (by decide) (by decide)
  obtain ⟨lrw, hlrw, klrw, llrw⟩ := hs.row km 15 85 60 (by decide) (by decide)
  have nlt : lw ≠ tl := hu.ne hlw htl (by rw [klw]; decide) (Or.inr (by decide))
  refine r_aload_n hC dL_law_192 1 rfl ?_
  refine r_aload_n hC dL_law_193 0 rfl ?_
  refine r_iload hC dL_law_194 4 rfl ?_
  refine r_iconst hC (v := (1)) dL_law_196 (by decide) (by decide) (fun x1_ e1 t1 => ?_)
  refine r_iadd hC dL_law_197 (fun x2_ e2 => ?_)
  try have t2 : x2_.toInt = i.toInt + x1_.toInt := by rw [e2]; exact ti_add (by omega) (by omega)
  refine r_sld hC hXs hb hbA (by omega) (by omega) dL_law_198 (fun x3_ e3 => ?_)
  refine r_aload_n hC dL_law_199 0 rfl ?_
  refine r_iload hC dL_law_200 4 rfl ?_
  refine r_iconst hC (v := (2)) dL_law_202 (by decide) (by decide) (fun x4_ e4 t4 => ?_)
  refine r_iadd hC dL_law_203 (fun x5_ e5 => ?_)
  try have t5 : x5_.toInt = i.toInt + x4_.toInt := by rw [e5]; exact ti_add (by omega) (by omega)
  refine r_sld hC hXs hb hbA (by omega) (by omega) dL_law_204 (fun x6_ e6 => ?_)
  refine r_aload_n hC dL_law_205 0 rfl ?_
  refine r_iload hC dL_law_206 4 rfl ?_
  refine r_iconst hC (v := (3)) dL_law_208 (by decide) (by decide) (fun x7_ e7 t7 => ?_)
  refine r_iadd hC dL_law_209 (fun x8_ e8 => ?_)
  try have t8 : x8_.toInt = i.toInt + x7_.toInt := by rw [e8]; exact ti_add (by omega) (by omega)
  refine r_sld hC hXs hb hbA (by omega) (by omega) dL_law_210 (fun x9_ e9 => ?_)
  refine r_aload_n hC dL_law_211 0 rfl ?_
  refine r_iload hC dL_law_212 4 rfl ?_
  refine r_iconst hC (v := (4)) dL_law_214 (by decide) (by decide) (fun x10_ e10 t10 => ?_)
  refine r_iadd hC dL_law_215 (fun x11_ e11 => ?_)
  try have t11 : x11_.toInt = i.toInt + x10_.toInt := by rw [e11]; exact ti_add (by omega) (by omega)
  refine r_sld hC hXs hb hbA (by omega) (by omega) dL_law_216 (fun x12_ e12 => ?_)
  refine r_aload_n hC dL_law_217 0 rfl ?_
  refine r_iload hC dL_law_218 4 rfl ?_
  refine r_iconst hC (v := (5)) dL_law_220 (by decide) (by decide) (fun x13_ e13 t13 => ?_)
  refine r_iadd hC dL_law_221 (fun x14_ e14 => ?_)
  try have t14 : x14_.toInt = i.toInt + x13_.toInt := by rw [e14]; exact ti_add (by omega) (by omega)
  refine r_sld hC hXs hb hbA (by omega) (by omega) dL_law_222 (fun x15_ e15 => ?_)
  have rt := hs.rng ktp (k := 1) rfl (x := I tp 1) rfl
  refine r_callV hC (As := [.int x3_, .int x6_, .int x9_, .int x12_, .int x15_]) (rest := []) (ci := 8) (f_X8_feed g (xL X) K len I J R hs x kx x3_ x6_ x9_ x12_ x15_ tp htp ktp bt hbb kbt nbt (I tp 1).toInt.toNat (by omega)) mT_2_121 mT_1_1 mT_2_118 mT_2_119 mT_2_120 okX8_feed ⟨by decide, by decide⟩ rfl (by show kO (K x) = _; rw [kx]; rfl) rfl rfl (Nat.le_of_ble_eq_true rfl) ⟨by show cn + 0 ≤ 601024; omega, by show sn + 0 ≤ 7293034; omega⟩ dL_law_223 (aI1 (F := fun st M => P g X 7 226 [(0, .ref b), (1, .ref x), (2, .ref m), (3, .ref o), (4, .int i)] st _ _ M) (M := (K, len, I, J, R)) fun x16_ I16 h16 => ?_)
  obtain ⟨hs16, hf16, k16_0⟩ := h16
  show P g X 7 226 [(0, .ref b), (1, .ref x), (2, .ref m), (3, .ref o), (4, .int i)] [.int x16_] cn sn (K, len, I16, J, R)
  refine r_pop hC dL_law_226 rfl ?_
  refine r_aload_n hC dL_law_227 2 rfl ?_
  refine r_aload_n hC dL_law_228 0 rfl ?_
  refine r_iload hC dL_law_229 4 rfl ?_
  refine r_iconst hC (v := (1)) dL_law_231 (by decide) (by decide) (fun x17_ e17 t17 => ?_)
  refine r_iadd hC dL_law_232 (fun x18_ e18 => ?_)
  try have t18 : x18_.toInt = i.toInt + x17_.toInt := by rw [e18]; exact ti_add (by omega) (by omega)
  refine r_sld hC hXs hb hbA (by omega) (by omega) dL_law_233 (fun x19_ e19 => ?_)
  obtain rfl : x3_ = x19_ := sld_eq e3 e19 (by omega)
  refine r_aload_n hC dL_law_234 0 rfl ?_
  refine r_iload hC dL_law_235 4 rfl ?_
  refine r_iconst hC (v := (2)) dL_law_237 (by decide) (by decide) (fun x20_ e20 t20 => ?_)
  refine r_iadd hC dL_law_238 (fun x21_ e21 => ?_)
  try have t21 : x21_.toInt = i.toInt + x20_.toInt := by rw [e21]; exact ti_add (by omega) (by omega)
  refine r_sld hC hXs hb hbA (by omega) (by omega) dL_law_239 (fun x22_ e22 => ?_)
  obtain rfl : x6_ = x22_ := sld_eq e6 e22 (by omega)
  refine r_aload_n hC dL_law_240 0 rfl ?_
  refine r_iload hC dL_law_241 4 rfl ?_
  refine r_iconst hC (v := (3)) dL_law_243 (by decide) (by decide) (fun x23_ e23 t23 => ?_)
  refine r_iadd hC dL_law_244 (fun x24_ e24 => ?_)
  try have t24 : x24_.toInt = i.toInt + x23_.toInt := by rw [e24]; exact ti_add (by omega) (by omega)
  refine r_sld hC hXs hb hbA (by omega) (by omega) dL_law_245 (fun x25_ e25 => ?_)
  obtain rfl : x9_ = x25_ := sld_eq e9 e25 (by omega)
  refine r_aload_n hC dL_law_246 0 rfl ?_
  refine r_iload hC dL_law_247 4 rfl ?_
  refine r_iconst hC (v := (4)) dL_law_249 (by decide) (by decide) (fun x26_ e26 t26 => ?_)
  refine r_iadd hC dL_law_250 (fun x27_ e27 => ?_)
  try have t27 : x27_.toInt = i.toInt + x26_.toInt := by rw [e27]; exact ti_add (by omega) (by omega)
  refine r_sld hC hXs hb hbA (by omega) (by omega) dL_law_251 (fun x28_ e28 => ?_)
  obtain rfl : x12_ = x28_ := sld_eq e12 e28 (by omega)
  refine r_aload_n hC dL_law_252 0 rfl ?_
  refine r_iload hC dL_law_253 4 rfl ?_
  refine r_iconst hC (v := (5)) dL_law_255 (by decide) (by decide) (fun x29_ e29 t29 => ?_)
  refine r_iadd hC dL_law_256 (fun x30_ e30 => ?_)
  try have t30 : x30_.toInt = i.toInt + x29_.toInt := by rw [e30]; exact ti_add (by omega) (by omega)
  refine r_sld hC hXs hb hbA (by omega) (by omega) dL_law_257 (fun x31_ e31 => ?_)
  obtain rfl : x15_ = x31_ := sld_eq e15 e31 (by omega)
  have m6 : (I16 m 6).toInt = (I m 6).toInt := congrArg Int32.toInt (hf16.get km rfl)
  refine r_callV hC (As := [.int x3_, .int x6_, .int x9_, .int x12_, .int x15_]) (rest := []) (ci := 10) (f_X10_feed g (xL X) K len I16 J R hs16 m km x3_ x6_ x9_ x12_ x15_ mt hmt kmt nmt (I tp 1).toInt.toNat (by omega)) mT_5_77 mT_1_10 mT_5_74 mT_5_75 mT_5_76 okX10_feed ⟨by decide, by decide⟩ rfl (by show kO (K m) = _; rw [km]; rfl) rfl rfl (Nat.le_of_ble_eq_true rfl) ⟨by show cn + 0 ≤ 601024; omega, by show sn + 0 ≤ 7293034; omega⟩ dL_law_258 (aI1 (F := fun st M => P g X 7 261 [(0, .ref b), (1, .ref x), (2, .ref m), (3, .ref o), (4, .int i)] st _ _ M) (M := (K, len, I16, J, R)) fun x32_ I32 h32 => ?_)
  obtain ⟨hs32, hf32, k32_0⟩ := h32
  show P g X 7 261 [(0, .ref b), (1, .ref x), (2, .ref m), (3, .ref o), (4, .int i)] [.int x32_] cn sn (K, len, I32, J, R)
  have v_te5 : I32 te 5 = I te 5 := (hf32.get kte rfl).trans (hf16.get kte rfl)
  have v_te6 : I32 te 6 = I te 6 := (hf32.get kte rfl).trans (hf16.get kte rfl)
  have v_x12 : I32 x 12 = I x 12 := (hf32.get kx rfl).trans (hf16.get kx rfl)
  have v_m12 : I32 m 12 = I m 12 := (hf32.get km rfl).trans (hf16.get km rfl)
  have v_m2 : I32 m 2 = I m 2 := (hf32.get km rfl).trans (hf16.get km rfl)
  have v_tp : I32 tp 1 = I16 tp 1 := hf32.get ktp rfl
  have v_m6 : I16 m 6 = I m 6 := hf16.get km rfl
  have e1 : I16 mt = I mt := funext fun j => hf16.get kmt rfl
  have e2 : I32 bt = I16 bt := funext fun j => hf32.get kbt rfl
  rcases k16_0 with ⟨qn, q1⟩ | ⟨qn, q1, qb⟩
  · rcases k32_0 with ⟨pn, p1, pb⟩ | ⟨pn, p1, pb⟩
    · have q2 : (I16 tp 1).toInt = (I tp 1).toInt := by rw [q1]
      have lvn : LV x m tp te I32 := by unfold LV; rw [v_te5, v_te6, v_x12, v_m12, v_m2, v_tp]; exact ⟨by omega, lv2, lv3, lv4⟩
      refine r_pop hC dL_law_261 rfl ?_
      refine r_goto hC (tgt := 1253) dL_law_262 (by decide) ?_
      refine r_sub [0, 1, 2, 3, 4] rfl ?_
      refine r_widen hC (k2 := cn + 18) (n2 := sn + 231) (by omega) (by omega) ?_
      exact kk K len I32 J R ⟨hs32, la, ⟨h, s, lk, ls, lh, (lr.mv hf16 kh klk krd km rfl).mv hf32 kh klk krd km rfl, (lc.mv hs kx hf16 kh klk rfl).mv hs kx hf32 kh klk rfl⟩, (fun j hj => by rw [v_tp, q1] at hj; rw [pb, e1, e2, q1]; exact lb j hj), lvn⟩
    · exfalso; omega
  · rcases k32_0 with ⟨pn, p1, pb⟩ | ⟨pn, p1, pb⟩
    · exfalso; omega
    · have lvn : LV x m tp te I32 := by unfold LV; rw [v_te5, v_te6, v_x12, v_m12, v_m2, v_tp]; exact ⟨by omega, lv2, lv3, lv4⟩
      refine r_pop hC dL_law_261 rfl ?_
      refine r_goto hC (tgt := 1253) dL_law_262 (by decide) ?_
      refine r_sub [0, 1, 2, 3, 4] rfl ?_
      refine r_widen hC (k2 := cn + 18) (n2 := sn + 231) (by omega) (by omega) ?_
      exact kk K len I32 J R ⟨hs32, la, ⟨h, s, lk, ls, lh, (lr.mv hf16 kh klk krd km rfl).mv hf32 kh klk krd km rfl, (lc.mv hs kx hf16 kh klk rfl).mv hs kx hf32 kh klk rfl⟩, lb.feed (by omega) qb e1 pb e2 (by rw [v_tp]; exact q1) (fun _ => fb_rng), lvn⟩
set_option maxHeartbeats 4000000 in
set_option maxRecDepth 100000 in
theorem law_1 {g : GG} {X : XT} {b L : Nat} {xs : Nat → Int32} (hX : LX g X b L xs) {x m o tp bt te tk nr pr rd mt cn sn : Nat} {i : Int32} {K len : Nat → Nat} {I : Nat → Nat → Int32} {J : Nat → Nat → Int64} {R : Nat → Nat → Option Nat} (hI : LI x m o tp bt te tk nr pr rd mt K len I R) (hi : 0 ≤ i.toInt) (hiL : i.toInt + 6 ≤ L) (hcn : cn + 18 ≤ 601024) (hsn : sn + 231 ≤ 7293034) (kk : ∀ K' len' I' J' R', LI x m o tp bt te tk nr pr rd mt K' len' I' R' → P g X 7 1253 [(0, .ref b), (1, .ref x), (2, .ref m), (3, .ref o), (4, .int i)] [] (cn + 18) (sn + 231) (K', len', I', J', R')) : P g X 7 265 [(0, .ref b), (1, .ref x), (2, .ref m), (3, .ref o), (4, .int i)] [] cn sn (K, len, I, J, R) := by
  obtain ⟨hC, hcs, hl, hXs, hb, hbA, hL⟩ := hX
  obtain ⟨hs, la, ⟨h, s, lk, ls, lh, lr, lc⟩, lb, lv⟩ := id hI
  obtain ⟨hu, DA, rwd, scd, lcm⟩ := id lc
  obtain ⟨sd1, sd2, sd3, sd4, sd5, sd7, sd8, sd9⟩ := id scd
  obtain ⟨kx, km, ⟨ko, no⟩, ⟨htp, ktp⟩, ⟨hbb, kbt, nbt⟩, ⟨hte, kte⟩, ⟨htk, ktk⟩, hbt, ⟨hnr, knr, lnr⟩, ⟨hpr, kpr, lpr⟩, ⟨hrd, krd⟩, ⟨hmt, kmt, nmt⟩⟩ := id la
  obtain ⟨⟨hh, kh⟩, ⟨hs2, ks⟩, ⟨hlk2, klk⟩, ⟨hls, kls⟩, nhs, nls⟩ := id lh
  obtain ⟨lv1, lv2, lv3, lv4⟩ := id lv
  obtain ⟨lw, hlw, klw, llw⟩ := hs.row kx 4 41 60 (by decide) (by decide)
  obtain ⟨kn, hkn, kkn, lkn⟩ := hs.row kx 6 43 6 (by decide) (by decide)
  obtain ⟨tl, htl, ktl, ltl⟩ := hs.row kx 7 41 60 (by decide) (by decide)
  obtain ⟨lrw, hlrw, klrw, llrw⟩ := hs.row km 15 85 60 (by decide) (by decide)
  have nlt : lw ≠ tl := hu.ne hlw htl (by rw [klw]; decide) (Or.inr (by decide))
  refine r_aload_n hC dL_law_265 1 rfl ?_
  refine r_aload_n hC dL_law_266 0 rfl ?_
  refine r_iload hC dL_law_267 4 rfl ?_
  refine r_iconst hC (v := (1)) dL_law_269 (by decide) (by decide) (fun x1_ e1 t1 => ?_)
  refine r_iadd hC dL_law_270 (fun x2_ e2 => ?_)
  try have t2 : x2_.toInt = i.toInt + x1_.toInt := by rw [e2]; exact ti_add (by omega) (by omega)
  refine r_sld hC hXs hb hbA (by omega) (by omega) dL_law_271 (fun x3_ e3 => ?_)
  have rt := hs.rng ktp (k := 1) rfl (x := I tp 1) rfl
  refine r_callV hC (As := [.int x3_]) (rest := []) (ci := 8) (f_X8_hill g (xL X) K len I J R hs x kx x3_ tp htp ktp bt hbb kbt nbt te hte kte tk htk ktk hbt nr hnr knr lnr pr hpr kpr lpr h hh kh s hs2 ks lk hlk2 klk ls hls kls rd hrd krd nhs nls lw hlw klw llw kn hkn kkn lkn hu (fun j => (I bt j).toInt) (I tp 1).toInt.toNat (by omega) (fun _ _ => rfl)) mT_2_129 mT_1_1 mT_2_126 mT_2_127 mT_2_128 okX8_hill ⟨by decide, by decide⟩ rfl (by show kO (K x) = _; rw [kx]; rfl) rfl rfl (Nat.le_of_ble_eq_true rfl) ⟨by show cn + 0 ≤ 601024; omega, by show sn + 0 ≤ 7293034; omega⟩ dL_law_272 (aI3 (F := fun st M => P g X 7 275 [(0, .ref b), (1, .ref x), (2, .ref m), (3, .ref o), (4, .int i)] st _ _ M) (M := (K, len, I, J, R)) fun x4_ I4 J4 R4 h4 => ?_)
  obtain ⟨hs4, hf4, -, hfR4, k4, hu4⟩ := h4
  show P g X 7 275 [(0, .ref b), (1, .ref x), (2, .ref m), (3, .ref o), (4, .int i)] [.int x4_] cn sn (K, len, I4, J4, R4)
  refine r_pop hC dL_law_275 rfl ?_
  refine r_aload_n hC dL_law_276 2 rfl ?_
  refine r_aload_n hC dL_law_277 0 rfl ?_
  refine r_iload hC dL_law_278 4 rfl ?_
  refine r_iconst hC (v := (1)) dL_law_280 (by decide) (by decide) (fun x5_ e5 t5 => ?_)
  refine r_iadd hC dL_law_281 (fun x6_ e6 => ?_)
  try have t6 : x6_.toInt = i.toInt + x5_.toInt := by rw [e6]; exact ti_add (by omega) (by omega)
  refine r_sld hC hXs hb hbA (by omega) (by omega) dL_law_282 (fun x7_ e7 => ?_)
  obtain rfl : x3_ = x7_ := sld_eq e3 e7 (by omega)
  have m6 : (I4 m 6).toInt = (I m 6).toInt := congrArg Int32.toInt (hf4.get km rfl)
  refine r_callV hC (As := [.int x3_]) (rest := []) (ci := 10) (f_X10_hill g (xL X) K len I4 J4 R4 hs4 m km x3_ mt ((hfR4.get km rfl).trans hmt) kmt nmt (fun j => (I bt j).toInt) (I tp 1).toInt.toNat (by omega) (fun j hj => by rw [hf4.get kmt rfl, (lb j (by omega)).1]) (fun j hj => (lb j (by omega)).2) hu4) mT_5_81 mT_1_10 mT_5_78 mT_5_79 mT_5_80 okX10_hill ⟨by decide, by decide⟩ rfl (by show kO (K m) = _; rw [km]; rfl) rfl rfl (Nat.le_of_ble_eq_true rfl) ⟨by show cn + 18 ≤ 601024; omega, by show sn + 231 ≤ 7293034; omega⟩ dL_law_283 (aI5 (F := fun st M => P g X 7 286 [(0, .ref b), (1, .ref x), (2, .ref m), (3, .ref o), (4, .int i)] st _ _ M) fun x8_ M8 h8 => ?_)
  obtain ⟨K8, len8, I8, J8, R8⟩ := M8
  obtain ⟨hs8, ho8, hf8, hfR8, hom8, hoq8, huu8, k8⟩ := h8
  dsimp only at hs8 ho8 hf8 hfR8 hom8 hoq8 huu8 k8
  show P g X 7 286 [(0, .ref b), (1, .ref x), (2, .ref m), (3, .ref o), (4, .int i)] [.int x8_] (cn + 18) (sn + 231) (K8, len8, I8, J8, R8)
  have hR : ∀ b k, K b ≠ 0 → ¬ (K b = 9 ∧ (k = 2 ∨ k = 3)) → ¬ (K b = 11 ∧ (k = 3 ∨ k = 4)) → R8 b k = R b k := fun b k z1 z2 z3 => (hfR8 b k z1 (in_113 z3)).trans (hfR4 b k (in_92 z2))
  have la2 := la.mv ho8 hR
  have kk2 : ∀ b q, K b = q → q ≠ 0 → K8 b = q := fun b q z1 z2 => (ho8 b (by rw [z1]; exact z2)).1.trans z1
  have g2 : R8 x 2 = R4 x 2 := hfR8 x 2 (by rw [kx]; decide) (by rw [kx]; rfl)
  have g3 : R8 x 3 = R4 x 3 := hfR8 x 3 (by rw [kx]; decide) (by rw [kx]; rfl)
  have gh : R8 h 0 = some lk := (hR h 0 (by rw [kh]; decide) (by rw [kh]; decide) (by rw [kh]; decide)).trans hlk2
  have gs : R8 s 0 = some ls := (hR s 0 (by rw [ks]; decide) (by rw [ks]; decide) (by rw [ks]; decide)).trans hls
  have v_tp1 : I8 tp 1 = I4 tp 1 := hf8 tp 1 (by rw [ktp]; decide) (by rw [ktp]; rfl)
  have v_te5 : I8 te 5 = I4 te 5 := hf8 te 5 (by rw [kte]; decide) (by rw [kte]; rfl)
  have v_te6 : I8 te 6 = I4 te 6 := hf8 te 6 (by rw [kte]; decide) (by rw [kte]; rfl)
  have v_x12 : I8 x 12 = I4 x 12 := hf8 x 12 (by rw [kx]; decide) (by rw [kx]; rfl)
  have v_rd0 : I8 rd 0 = I4 rd 0 := hf8 rd 0 (by rw [krd]; decide) (by rw [krd]; rfl)
  have v_h1 : I8 h 1 = I4 h 1 := hf8 h 1 (by rw [kh]; decide) (by rw [kh]; rfl)
  have v_h4 : I8 h 4 = I4 h 4 := hf8 h 4 (by rw [kh]; decide) (by rw [kh]; rfl)
  have v_h6 : I8 h 6 = I4 h 6 := hf8 h 6 (by rw [kh]; decide) (by rw [kh]; rfl)
  have v_h8 : I8 h 8 = I4 h 8 := hf8 h 8 (by rw [kh]; decide) (by rw [kh]; rfl)
  have v_h12 : I8 h 12 = I4 h 12 := hf8 h 12 (by rw [kh]; decide) (by rw [kh]; rfl)
  have v_lk1 : I8 lk 1 = I4 lk 1 := hf8 lk 1 (by rw [klk]; decide) (by rw [klk]; rfl)
  have v_lk2 : I8 lk 2 = I4 lk 2 := hf8 lk 2 (by rw [klk]; decide) (by rw [klk]; rfl)
  have v_lk3 : I8 lk 3 = I4 lk 3 := hf8 lk 3 (by rw [klk]; decide) (by rw [klk]; rfl)
  have v_lk4 : I8 lk 4 = I4 lk 4 := hf8 lk 4 (by rw [klk]; decide) (by rw [klk]; rfl)
  have v_lk5 : I8 lk 5 = I4 lk 5 := hf8 lk 5 (by rw [klk]; decide) (by rw [klk]; rfl)
  have v_s1 : I8 s 1 = I4 s 1 := hf8 s 1 (by rw [ks]; decide) (by rw [ks]; rfl)
  have v_s4 : I8 s 4 = I4 s 4 := hf8 s 4 (by rw [ks]; decide) (by rw [ks]; rfl)
  have v_s6 : I8 s 6 = I4 s 6 := hf8 s 6 (by rw [ks]; decide) (by rw [ks]; rfl)
  have v_s8 : I8 s 8 = I4 s 8 := hf8 s 8 (by rw [ks]; decide) (by rw [ks]; rfl)
  have v_s12 : I8 s 12 = I4 s 12 := hf8 s 12 (by rw [ks]; decide) (by rw [ks]; rfl)
  have v_ls1 : I8 ls 1 = I4 ls 1 := hf8 ls 1 (by rw [kls]; decide) (by rw [kls]; rfl)
  have v_ls2 : I8 ls 2 = I4 ls 2 := hf8 ls 2 (by rw [kls]; decide) (by rw [kls]; rfl)
  have v_ls3 : I8 ls 3 = I4 ls 3 := hf8 ls 3 (by rw [kls]; decide) (by rw [kls]; rfl)
  have v_ls4 : I8 ls 4 = I4 ls 4 := hf8 ls 4 (by rw [kls]; decide) (by rw [kls]; rfl)
  have v_ls5 : I8 ls 5 = I4 ls 5 := hf8 ls 5 (by rw [kls]; decide) (by rw [kls]; rfl)
  have r31 : R4 m 3 = R m 3 := hfR4.get km rfl
  rcases k4 with ⟨qr, q1, q12, qf1, qR, qa, qb⟩ | ⟨qr, kf, qf, qs, q1, q12, qt, q5, q6, qh, ql, qd, qow, qlv, qR, qa, qb⟩ | ⟨qr, D, qs, q1, q12, qt, q5, qrep, qrw, qdj, qdi, qlr, qz, qd, qa, qb⟩
  · rcases k8 with ⟨pr_, p1, p2, p6, p12, p20, p3⟩ | ⟨pr_, ⟨kf2, qf2, ps, p1, p2, p12, p6, p20, p3⟩ | ⟨D2, q2, ps, p1, p2, p12, p6, p20, p3, pk, psm, prw, pdj, pdi⟩⟩
    · have e6 : (I4 m 6).toInt = (I m 6).toInt := congrArg Int32.toInt (qf1.get km rfl)
      have e12 : (I4 m 12).toInt = (I m 12).toInt := congrArg Int32.toInt (qf1.get km rfl)
      have etp : (I4 tp 1).toInt = (I tp 1).toInt := congrArg Int32.toInt (qf1.get ktp rfl)
      have et5 : (I4 te 5).toInt = (I te 5).toInt := congrArg Int32.toInt (qf1.get kte rfl)
      have lvn : LV x m tp te I8 := by unfold LV; rw [v_tp1, v_te5, v_te6, v_x12]; exact ⟨by omega, by omega, fun z => by omega, fun _ => by omega⟩
      have lrn : LR h lk rd m K8 I8 R8 := by
        have w_h1 : (I8 h 1).toInt = (I h 1).toInt := by rw [v_h1, qf1.get kh rfl]
        have w_h4 : (I8 h 4).toInt = (I h 4).toInt := by rw [v_h4, qf1.get kh rfl]
        have w_h6 : (I8 h 6).toInt = (I h 6).toInt := by rw [v_h6, qf1.get kh rfl]
        have w_h8 : (I8 h 8).toInt = (I h 8).toInt := by rw [v_h8, qf1.get kh rfl]
        have w_h12 : (I8 h 12).toInt = (I h 12).toInt := by rw [v_h12, qf1.get kh rfl]
        have w_lk1 : (I8 lk 1).toInt = (I lk 1).toInt := by rw [v_lk1, qf1.get klk rfl]
        have w_lk3 : (I8 lk 3).toInt = (I lk 3).toInt := by rw [v_lk3, qf1.get klk rfl]
        have w_lk4 : (I8 lk 4).toInt = (I lk 4).toInt := by rw [v_lk4, qf1.get klk rfl]
        have w_lk5 : (I8 lk 5).toInt = (I lk 5).toInt := by rw [v_lk5, qf1.get klk rfl]
        have w_rd : (I8 rd 0).toInt = (I rd 0).toInt := by rw [v_rd0, qf1.get krd rfl]
        have w_m : (I8 m 20).toInt = (I m 20).toInt := p20.trans (congrArg Int32.toInt (qf1.get km rfl))
        refine ⟨w_rd.trans (lr.1.trans w_m.symm), ?_⟩
        rcases lr.2 with ⟨r3, n1, n2, n3, n4, n5, n6, n7, n8, n9, nr0⟩ | ⟨hm, r3, khm, m0, m1, m2, m3, m4, m5, m6, m7, m8, m9⟩
        · exact Or.inl ⟨p3.trans (r31.trans r3), w_h1.trans n1, w_h4.trans n2, w_h6.trans n3, w_h8.trans n4, w_h12.trans n5, w_lk1.trans n6, w_lk3.trans n7, w_lk4.trans n8, w_lk5.trans n9, w_rd.trans nr0⟩
        · have om9 : ∀ k, (I8 hm k).toInt = (I hm k).toInt := fun k => by rw [hom8 hm khm, qf1.get khm rfl]
          exact Or.inr ⟨hm, p3.trans (r31.trans r3), kk2 hm 10 khm (by decide), by rw [w_h6]; exact m0, w_h1.trans (m1.trans (om9 3).symm), w_h4.trans (m2.trans (om9 6).symm), w_h6.trans (m3.trans (om9 7).symm), w_h8.trans (m4.trans (om9 8).symm), w_h12.trans (m5.trans (om9 9).symm), w_lk1.trans (m6.trans (om9 0).symm), w_lk3.trans (m7.trans (om9 2).symm), w_lk4.trans (m8.trans (om9 4).symm), by rw [w_lk5, om9 4, om9 5]; exact m9⟩
      have eC : ∀ b k, qC (K b) = true → I8 b k = I4 b k := fun b k z => hf8 b k (q0C z) (okQ_in (q := qC) rfl qC_big z k)
      have n9 : ∀ b, K b = 2 ∨ K b = 3 ∨ K b = 45 → K b ≠ 0 ∧ K b ≠ 9 ∧ K b ≠ 11 := fun b z => by rcases z with z | z | z <;> rw [z] <;> decide
      have eR : ∀ b k, K b = 2 ∨ K b = 3 ∨ K b = 45 → R8 b k = R b k := fun b k z => hR b k (n9 b z).1 (fun y => (n9 b z).2.1 y.1) (fun y => (n9 b z).2.2 y.1)
      have eRn : ∀ b k, K b = 2 ∨ K b = 3 ∨ K b = 45 → R8 b k = R4 b k := fun b k z => hfR8 b k (n9 b z).1 (in_113 (fun y => (n9 b z).2.2 y.1))
      have hcx := CC_x hs kh klk hu
      have hcs := CC_x hs4 ks kls hu4
      have lcn : LC x h lk m K8 I8 R8 := by
        refine ⟨huu8, DA, ((rwd.mv hcx qC_big qf1 rfl).eq (fun r j b k hc => eC b k (hcx.1 r j b k hc))).toR hs kh klk eR, ⟨by rw [v_lk1, qf1.get klk rfl]; exact sd1, by rw [v_lk2, qf1.get klk rfl]; exact sd2, by rw [v_lk3, qf1.get klk rfl]; exact sd3, by rw [v_lk4, qf1.get klk rfl]; exact sd4, by rw [v_h1, qf1.get kh rfl]; exact sd5, by rw [v_h6, qf1.get kh rfl]; exact sd7, by rw [v_h8, qf1.get kh rfl]; exact sd8, by rw [v_h12, qf1.get kh rfl]; exact sd9⟩, fun hm z => ?_⟩
        obtain ⟨z1, z2, z3, z4, z5⟩ := lcm hm ((p3.trans r31).symm.trans z)
        have zk : K hm ≠ 0 ∧ K hm ≠ 9 ∧ K hm ≠ 11 := by rw [z1]; decide
        have om9 : ∀ k, (I8 hm k).toInt = (I hm k).toInt := fun k => by rw [hom8 hm z1, qf1.get z1 rfl]
        refine ⟨kk2 hm 10 z1 (by decide), z2, ((z3.mv (CM_x hs z1) qM_big qf1 rfl).eq (fun r j b k hc => hoq8 b k ((CM_x hs z1).1 r j b k hc) ⟨hm, r + 10, zk.1, by rw [qR]; exact hc.2.2.2⟩)).toRM (fun k => hR hm k zk.1 (fun y => zk.2.1 y.1) (fun y => zk.2.2 y.1)), ?_, fun l2 zl => by rw [(hR x 4 (by rw [kx]; decide) (fun y => by omega) (fun y => by rw [kx] at y; omega)), hlw] at zl; cases zl; exact (z5 lw hlw).eq (fun j => (hf8 lw j (by rw [klw]; decide) (by rw [klw]; rfl)).trans (qf1.get klw rfl))⟩
        unfold scM; simp only [om9]; exact z4
      refine r_pop hC dL_law_286 rfl ?_
      refine r_goto hC (tgt := 1253) dL_law_287 (by decide) ?_
      refine r_sub [0, 1, 2, 3, 4] rfl ?_
      refine r_widen hC (k2 := cn + 18) (n2 := sn + 231) (by omega) (by omega) ?_
      exact kk K8 len8 I8 J8 R8 ⟨hs8, la2, ⟨h, s, lk, ls, ⟨⟨g2.trans qa, kk2 h 2 kh (by decide)⟩, ⟨g3.trans qb, kk2 s 2 ks (by decide)⟩, ⟨gh, kk2 lk 3 klk (by decide)⟩, ⟨gs, kk2 ls 3 kls (by decide)⟩, nhs, nls⟩, lrn, lcn⟩, (fun j hj => by rw [v_tp1, qf1.get ktp rfl] at hj; rw [hf8 mt j (by rw [kmt]; decide) (by rw [kmt]; rfl), hf8 bt j (by rw [kbt]; decide) (by rw [kbt]; rfl), qf1.get kmt rfl, qf1.get kbt rfl]; exact lb j hj), lvn⟩
    · exfalso; omega
    · exfalso; omega
  · rcases k8 with ⟨pr_, p1, p2, p6, p12, p20, p3⟩ | ⟨pr_, ⟨kf2, qf2, ps, p1, p2, p12, p6, p20, p3⟩ | ⟨D2, q2, ps, p1, p2, p12, p6, p20, p3, pk, psm, prw, pdj, pdi⟩⟩
    · exfalso; omega
    · rw [qs] at ps; cases ps
      have lvn : LV x m tp te I8 := by unfold LV; rw [v_tp1, v_te5, v_te6, v_x12]; exact ⟨by omega, by omega, fun z => by omega, fun z => by omega⟩
      have lrn : LR h lk rd m K8 I8 R8 := by
        have w_h1 : (I8 h 1).toInt = (I h 1).toInt := by rw [v_h1, congrFun qh 1]
        have w_h4 : (I8 h 4).toInt = (I h 4).toInt := by rw [v_h4, congrFun qh 4]
        have w_h6 : (I8 h 6).toInt = (I h 6).toInt := by rw [v_h6, congrFun qh 6]
        have w_h8 : (I8 h 8).toInt = (I h 8).toInt := by rw [v_h8, congrFun qh 8]
        have w_h12 : (I8 h 12).toInt = (I h 12).toInt := by rw [v_h12, congrFun qh 12]
        have w_lk1 : (I8 lk 1).toInt = (I lk 1).toInt := by rw [v_lk1, congrFun ql 1]
        have w_lk3 : (I8 lk 3).toInt = (I lk 3).toInt := by rw [v_lk3, congrFun ql 3]
        have w_lk4 : (I8 lk 4).toInt = (I lk 4).toInt := by rw [v_lk4, congrFun ql 4]
        have w_lk5 : (I8 lk 5).toInt = (I lk 5).toInt := by rw [v_lk5, congrFun ql 5]
        have w_rd : (I8 rd 0).toInt = (I rd 0).toInt := by rw [v_rd0]; exact qd
        have w_m : (I8 m 20).toInt = (I m 20).toInt := p20.trans (congrArg Int32.toInt (hf4.get km rfl))
        refine ⟨w_rd.trans (lr.1.trans w_m.symm), ?_⟩
        rcases lr.2 with ⟨r3, n1, n2, n3, n4, n5, n6, n7, n8, n9, nr0⟩ | ⟨hm, r3, khm, m0, m1, m2, m3, m4, m5, m6, m7, m8, m9⟩
        · exact Or.inl ⟨p3.trans (r31.trans r3), w_h1.trans n1, w_h4.trans n2, w_h6.trans n3, w_h8.trans n4, w_h12.trans n5, w_lk1.trans n6, w_lk3.trans n7, w_lk4.trans n8, w_lk5.trans n9, w_rd.trans nr0⟩
        · have om9 : ∀ k, (I8 hm k).toInt = (I hm k).toInt := fun k => by rw [hom8 hm khm, hf4.get khm rfl]
          exact Or.inr ⟨hm, p3.trans (r31.trans r3), kk2 hm 10 khm (by decide), by rw [w_h6]; exact m0, w_h1.trans (m1.trans (om9 3).symm), w_h4.trans (m2.trans (om9 6).symm), w_h6.trans (m3.trans (om9 7).symm), w_h8.trans (m4.trans (om9 8).symm), w_h12.trans (m5.trans (om9 9).symm), w_lk1.trans (m6.trans (om9 0).symm), w_lk3.trans (m7.trans (om9 2).symm), w_lk4.trans (m8.trans (om9 4).symm), by rw [w_lk5, om9 4, om9 5]; exact m9⟩
      have eC : ∀ b k, qC (K b) = true → I8 b k = I4 b k := fun b k z => hf8 b k (q0C z) (okQ_in (q := qC) rfl qC_big z k)
      have n9 : ∀ b, K b = 2 ∨ K b = 3 ∨ K b = 45 → K b ≠ 0 ∧ K b ≠ 9 ∧ K b ≠ 11 := fun b z => by rcases z with z | z | z <;> rw [z] <;> decide
      have eR : ∀ b k, K b = 2 ∨ K b = 3 ∨ K b = 45 → R8 b k = R b k := fun b k z => hR b k (n9 b z).1 (fun y => (n9 b z).2.1 y.1) (fun y => (n9 b z).2.2 y.1)
      have eRn : ∀ b k, K b = 2 ∨ K b = 3 ∨ K b = 45 → R8 b k = R4 b k := fun b k z => hfR8 b k (n9 b z).1 (in_113 (fun y => (n9 b z).2.2 y.1))
      have hcx := CC_x hs kh klk hu
      have hcs := CC_x hs4 ks kls hu4
      have lcn : LC x h lk m K8 I8 R8 := by
        refine ⟨huu8, DA, ((qow _ _ rwd).eq (fun r j b k hc => eC b k (hcx.1 r j b k hc))).toR hs kh klk eR, ⟨by rw [v_lk1, congrFun ql 1]; exact sd1, by rw [v_lk2, congrFun ql 2]; exact sd2, by rw [v_lk3, congrFun ql 3]; exact sd3, by rw [v_lk4, congrFun ql 4]; exact sd4, by rw [v_h1, congrFun qh 1]; exact sd5, by rw [v_h6, congrFun qh 6]; exact sd7, by rw [v_h8, congrFun qh 8]; exact sd8, by rw [v_h12, congrFun qh 12]; exact sd9⟩, fun hm z => ?_⟩
        obtain ⟨z1, z2, z3, z4, z5⟩ := lcm hm ((p3.trans r31).symm.trans z)
        have zk : K hm ≠ 0 ∧ K hm ≠ 9 ∧ K hm ≠ 11 := by rw [z1]; decide
        have om9 : ∀ k, (I8 hm k).toInt = (I hm k).toInt := fun k => by rw [hom8 hm z1, hf4.get z1 rfl]
        refine ⟨kk2 hm 10 z1 (by decide), z2, ((z3.mv (CM_x hs z1) qM_big hf4 rfl).eq (fun r j b k hc => hoq8 b k ((CM_x hs z1).1 r j b k hc) ⟨hm, r + 10, zk.1, by rw [qR]; exact hc.2.2.2⟩)).toRM (fun k => hR hm k zk.1 (fun y => zk.2.1 y.1) (fun y => zk.2.2 y.1)), ?_, fun l2 zl => by rw [(hR x 4 (by rw [kx]; decide) (fun y => by omega) (fun y => by rw [kx] at y; omega)), hlw] at zl; cases zl; exact (z5 lw hlw).eq (fun j => (hf8 lw j (by rw [klw]; decide) (by rw [klw]; rfl)).trans (qlv j))⟩
        unfold scM; simp only [om9]; exact z4
      refine r_pop hC dL_law_286 rfl ?_
      refine r_goto hC (tgt := 1253) dL_law_287 (by decide) ?_
      refine r_sub [0, 1, 2, 3, 4] rfl ?_
      refine r_widen hC (k2 := cn + 18) (n2 := sn + 231) (by omega) (by omega) ?_
      exact kk K8 len8 I8 J8 R8 ⟨hs8, la2, ⟨h, s, lk, ls, ⟨⟨g2.trans qa, kk2 h 2 kh (by decide)⟩, ⟨g3.trans qb, kk2 s 2 ks (by decide)⟩, ⟨gh, kk2 lk 3 klk (by decide)⟩, ⟨gs, kk2 ls 3 kls (by decide)⟩, nhs, nls⟩, lrn, lcn⟩, fun j hj => absurd hj (by rw [v_tp1]; omega), lvn⟩
    · exfalso; rw [qs] at ps; cases ps
  · rcases k8 with ⟨pr_, p1, p2, p6, p12, p20, p3⟩ | ⟨pr_, ⟨kf2, qf2, ps, p1, p2, p12, p6, p20, p3⟩ | ⟨D2, q2, ps, p1, p2, p12, p6, p20, p3, pk, psm, prw, pdj, pdi⟩⟩
    · exfalso; omega
    · exfalso; rw [qs] at ps; cases ps
    · rw [qs] at ps; cases ps
      have lvn : LV x m tp te I8 := by unfold LV; rw [v_tp1, v_te5, v_te6, v_x12]; exact ⟨by omega, by omega, fun z => by omega, fun _ => by omega⟩
      obtain ⟨gdi, gd0, gd5, gd7⟩ := sHill_go 902 0 D0 D (Nat.zero_le _) DI_0 qs
      obtain ⟨hd0, ⟨hd1, hd2⟩, ⟨hd3, hd4⟩, ⟨hd5, hd6⟩, ⟨hd7, hd8⟩, ⟨hd9, hd10⟩, hd11, hd12⟩ := id gdi
      obtain ⟨rs0, rs1, rs2, rs3, rs4, rs5, rs6, rs7, rs8, rs9, rs10⟩ := id qrep.1
      obtain ⟨sf0, sf3, sf4, sf5, sf6, sf7, sf8, sf9, sf10⟩ := id psm
      have u_s1 : (I8 s 1).toInt = (I4 s 1).toInt := by rw [v_s1]
      have u_s4 : (I8 s 4).toInt = (I4 s 4).toInt := by rw [v_s4]
      have u_s6 : (I8 s 6).toInt = (I4 s 6).toInt := by rw [v_s6]
      have u_s8 : (I8 s 8).toInt = (I4 s 8).toInt := by rw [v_s8]
      have u_s12 : (I8 s 12).toInt = (I4 s 12).toInt := by rw [v_s12]
      have u_ls1 : (I8 ls 1).toInt = (I4 ls 1).toInt := by rw [v_ls1]
      have u_ls3 : (I8 ls 3).toInt = (I4 ls 3).toInt := by rw [v_ls3]
      have u_ls4 : (I8 ls 4).toInt = (I4 ls 4).toInt := by rw [v_ls4]
      have u_ls5 : (I8 ls 5).toInt = (I4 ls 5).toInt := by rw [v_ls5]
      have u_rd0 : (I8 rd 0).toInt = (I4 rd 0).toInt := by rw [v_rd0]
      rcases sf0 with ⟨z0, -⟩ | ⟨-, s01, -, s02, s03⟩
      · exact absurd z0 gd0
      have lrn : LR s ls rd m K8 I8 R8 := ⟨(u_rd0.trans qd).trans p20.symm, Or.inr ⟨q2, p3, pk, by rw [u_s6, rs7]; exact pos7 hd3 gd7, u_s1.trans (rs5.trans sf3.symm), u_s4.trans (rs6.trans sf6.symm), u_s6.trans (rs7.trans sf7.symm), u_s8.trans (rs8.trans sf8.symm), u_s12.trans (rs9.trans sf9.symm), u_ls1.trans (rs1.trans s01.symm), u_ls3.trans (rs3.trans s03.symm), u_ls4.trans (rs4.trans sf4.symm), by rw [u_ls5, qz, sf4, sf5]; exact (Int.sub_self _).symm⟩⟩
      have eC : ∀ b k, qC (K b) = true → I8 b k = I4 b k := fun b k z => hf8 b k (q0C z) (okQ_in (q := qC) rfl qC_big z k)
      have n9 : ∀ b, K b = 2 ∨ K b = 3 ∨ K b = 45 → K b ≠ 0 ∧ K b ≠ 9 ∧ K b ≠ 11 := fun b z => by rcases z with z | z | z <;> rw [z] <;> decide
      have eR : ∀ b k, K b = 2 ∨ K b = 3 ∨ K b = 45 → R8 b k = R b k := fun b k z => hR b k (n9 b z).1 (fun y => (n9 b z).2.1 y.1) (fun y => (n9 b z).2.2 y.1)
      have eRn : ∀ b k, K b = 2 ∨ K b = 3 ∨ K b = 45 → R8 b k = R4 b k := fun b k z => hfR8 b k (n9 b z).1 (in_113 (fun y => (n9 b z).2.2 y.1))
      have hcx := CC_x hs kh klk hu
      have hcs := CC_x hs4 ks kls hu4
      have lcn : LC x s ls m K8 I8 R8 := by
        refine ⟨huu8, D, (qrw.eq (fun r j b k hc => eC b k (hcs.1 r j b k hc))).toR hs4 ks kls eRn, ⟨by rw [v_ls1]; exact rs1, by rw [v_ls2]; exact rs2, by rw [v_ls3]; exact rs3, by rw [v_ls4]; exact rs4, by rw [v_s1]; exact rs5, by rw [v_s6]; exact rs7, by rw [v_s8]; exact rs8, by rw [v_s12]; exact rs9⟩, fun hm z => ?_⟩
        rw [p3] at z; cases z
        exact ⟨pk, qdj, prw, ⟨s01, s02, s03, sf4, sf3, sf7, sf8, sf9⟩, fun l2 zl => by rw [(hR x 4 (by rw [kx]; decide) (fun y => by omega) (fun y => by rw [kx] at y; omega)), hlw] at zl; cases zl; exact qlr.eq (fun j => (hf8 lw j (by rw [klw]; decide) (by rw [klw]; rfl)))⟩
      refine r_pop hC dL_law_286 rfl ?_
      refine r_goto hC (tgt := 1253) dL_law_287 (by decide) ?_
      refine r_sub [0, 1, 2, 3, 4] rfl ?_
      refine r_widen hC (k2 := cn + 18) (n2 := sn + 231) (by omega) (by omega) ?_
      exact kk K8 len8 I8 J8 R8 ⟨hs8, la2, ⟨s, h, ls, lk, ⟨⟨g2.trans qa, kk2 s 2 ks (by decide)⟩, ⟨g3.trans qb, kk2 h 2 kh (by decide)⟩, ⟨gs, kk2 ls 3 kls (by decide)⟩, ⟨gh, kk2 lk 3 klk (by decide)⟩, Ne.symm nhs, Ne.symm nls⟩, lrn, lcn⟩, fun j hj => absurd hj (by rw [v_tp1]; omega), lvn⟩
set_option maxHeartbeats 4000000 in
set_option maxRecDepth 100000 in
theorem law_2 {g : GG} {X : XT} {b L : Nat} {xs : Nat → Int32} (hX : LX g X b L xs) {x m o tp bt te tk nr pr rd mt cn sn : Nat} {i : Int32} {K len : Nat → Nat} {I : Nat → Nat → Int32} {J : Nat → Nat → Int64} {R : Nat → Nat → Option Nat} (hI : LI x m o tp bt te tk nr pr rd mt K len I R) (hi : 0 ≤ i.toInt) (hiL : i.toInt + 6 ≤ L) (hcn : cn + 18 ≤ 601024) (hsn : sn + 231 ≤ 7293034) (kk : ∀ K' len' I' J' R', LI x m o tp bt te tk nr pr rd mt K' len' I' R' → P g X 7 1253 [(0, .ref b), (1, .ref x), (2, .ref m), (3, .ref o), (4, .int i)] [] (cn + 18) (sn + 231) (K', len', I', J', R')) : P g X 7 290 [(0, .ref b), (1, .ref x), (2, .ref m), (3, .ref o), (4, .int i)] [] cn sn (K, len, I, J, R) := by
  obtain ⟨hC, hcs, hl, hXs, hb, hbA, hL⟩ := hX
  obtain ⟨hs, la, ⟨h, s, lk, ls, lh, lr, lc⟩, lb, lv⟩ := id hI
  obtain ⟨hu, DA, rwd, scd, lcm⟩ := id lc
  obtain ⟨sd1, sd2, sd3, sd4, sd5, sd7, sd8, sd9⟩ := id scd
  obtain ⟨kx, km, ⟨ko, no⟩, ⟨htp, ktp⟩, ⟨hbb, kbt, nbt⟩, ⟨hte, kte⟩, ⟨htk, ktk⟩, hbt, ⟨hnr, knr, lnr⟩, ⟨hpr, kpr, lpr⟩, ⟨hrd, krd⟩, ⟨hmt, kmt, nmt⟩⟩ := id la
  obtain ⟨⟨hh, kh⟩, ⟨hs2, ks⟩, ⟨hlk2, klk⟩, ⟨hls, kls⟩, nhs, nls⟩ := id lh
  obtain ⟨lv1, lv2, lv3, lv4⟩ := id lv
  obtain ⟨lw, hlw, klw, llw⟩ := hs.row kx 4 41 60 (by decide) (by decide)
  obtain ⟨kn, hkn, kkn, lkn⟩ := hs.row kx 6 43 6 (by decide) (by decide)
  obtain ⟨tl, htl, ktl, ltl⟩ := hs.row kx 7 41 60 (by decide) (by decide)
  obtain ⟨lrw, hlrw, klrw, llrw⟩ := hs.row km 15 85 60 (by decide) (by decide)
  have nlt : lw ≠ tl := hu.ne hlw htl (by rw [klw]; decide) (Or.inr (by decide))
  refine r_aload_n hC dL_law_290 1 rfl ?_
  refine r_callV hC (As := []) (rest := []) (ci := 8) (f_X8_fault g (xL X) K len I J R hs x kx  te hte kte) mT_3_119 mT_1_1 mT_3_116 mT_3_117 mT_3_118 okX8_fault ⟨by decide, by decide⟩ rfl (by show kO (K x) = _; rw [kx]; rfl) rfl rfl (Nat.le_of_ble_eq_true rfl) ⟨by show cn + 0 ≤ 601024; omega, by show sn + 0 ≤ 7293034; omega⟩ dL_law_291 (aI0 (F := fun st M => P g X 7 294 [(0, .ref b), (1, .ref x), (2, .ref m), (3, .ref o), (4, .int i)] st _ _ M) (M := (K, len, I, J, R)) fun x1_  h1 => ?_)
  have k1_0 := h1
  show P g X 7 294 [(0, .ref b), (1, .ref x), (2, .ref m), (3, .ref o), (4, .int i)] [.int x1_] cn sn (K, len, I, J, R)
  refine r_pop hC dL_law_294 rfl ?_
  refine r_aload_n hC dL_law_295 2 rfl ?_
  refine r_callV hC (As := []) (rest := []) (ci := 10) (f_X10_fault g (xL X) K len I J R hs m km ) mT_6_83 mT_1_10 mT_6_80 mT_6_81 mT_6_82 okX10_fault ⟨by decide, by decide⟩ rfl (by show kO (K m) = _; rw [km]; rfl) rfl rfl (Nat.le_of_ble_eq_true rfl) ⟨by show cn + 0 ≤ 601024; omega, by show sn + 0 ≤ 7293034; omega⟩ dL_law_296 (aI1 (F := fun st M => P g X 7 299 [(0, .ref b), (1, .ref x), (2, .ref m), (3, .ref o), (4, .int i)] st _ _ M) (M := (K, len, I, J, R)) fun x2_ I2 h2 => ?_)
  obtain ⟨hs2, hf2, k2_0⟩ := h2
  show P g X 7 299 [(0, .ref b), (1, .ref x), (2, .ref m), (3, .ref o), (4, .int i)] [.int x2_] cn sn (K, len, I2, J, R)
  refine r_pop hC dL_law_299 rfl ?_
  refine r_goto hC (tgt := 1253) dL_law_300 (by decide) ?_
  refine r_sub [0, 1, 2, 3, 4] rfl ?_
  refine r_widen hC (k2 := cn + 18) (n2 := sn + 231) (by omega) (by omega) ?_
  exact kk K len I2 J R (hI.sil hs2 (Fr.refl (l := [])) hf2 rfl rfl rfl rfl rfl rfl rfl rfl rfl rfl)
set_option maxHeartbeats 4000000 in
set_option maxRecDepth 100000 in
theorem law_3 {g : GG} {X : XT} {b L : Nat} {xs : Nat → Int32} (hX : LX g X b L xs) {x m o tp bt te tk nr pr rd mt cn sn : Nat} {i : Int32} {K len : Nat → Nat} {I : Nat → Nat → Int32} {J : Nat → Nat → Int64} {R : Nat → Nat → Option Nat} (hI : LI x m o tp bt te tk nr pr rd mt K len I R) (hi : 0 ≤ i.toInt) (hiL : i.toInt + 6 ≤ L) (hcn : cn + 18 ≤ 601024) (hsn : sn + 231 ≤ 7293034) (kk : ∀ K' len' I' J' R', LI x m o tp bt te tk nr pr rd mt K' len' I' R' → P g X 7 1253 [(0, .ref b), (1, .ref x), (2, .ref m), (3, .ref o), (4, .int i)] [] (cn + 18) (sn + 231) (K', len', I', J', R')) : P g X 7 303 [(0, .ref b), (1, .ref x), (2, .ref m), (3, .ref o), (4, .int i)] [] cn sn (K, len, I, J, R) := by
  obtain ⟨hC, hcs, hl, hXs, hb, hbA, hL⟩ := hX
  obtain ⟨hs, la, ⟨h, s, lk, ls, lh, lr, lc⟩, lb, lv⟩ := id hI
  obtain ⟨hu, DA, rwd, scd, lcm⟩ := id lc
  obtain ⟨sd1, sd2, sd3, sd4, sd5, sd7, sd8, sd9⟩ := id scd
  obtain ⟨kx, km, ⟨ko, no⟩, ⟨htp, ktp⟩, ⟨hbb, kbt, nbt⟩, ⟨hte, kte⟩, ⟨htk, ktk⟩, hbt, ⟨hnr, knr, lnr⟩, ⟨hpr, kpr, lpr⟩, ⟨hrd, krd⟩, ⟨hmt, kmt, nmt⟩⟩ := id la
  obtain ⟨⟨hh, kh⟩, ⟨hs2, ks⟩, ⟨hlk2, klk⟩, ⟨hls, kls⟩, nhs, nls⟩ := id lh
  obtain ⟨lv1, lv2, lv3, lv4⟩ := id lv
  obtain ⟨lw, hlw, klw, llw⟩ := hs.row kx 4 41 60 (by decide) (by decide)
  obtain ⟨kn, hkn, kkn, lkn⟩ := hs.row kx 6 43 6 (by decide) (by decide)
  obtain ⟨tl, htl, ktl, ltl⟩ := hs.row kx 7 41 60 (by decide) (by decide)
  obtain ⟨lrw, hlrw, klrw, llrw⟩ := hs.row km 15 85 60 (by decide) (by decide)
  have nlt : lw ≠ tl := hu.ne hlw htl (by rw [klw]; decide) (Or.inr (by decide))
  refine r_aload_n hC dL_law_303 1 rfl ?_
  refine r_callV hC (As := []) (rest := []) (ci := 8) (f_X8_where g (xL X) K len I J R hs x kx  te hte kte) mT_3_123 mT_1_1 mT_3_120 mT_3_121 mT_3_122 okX8_where ⟨by decide, by decide⟩ rfl (by show kO (K x) = _; rw [kx]; rfl) rfl rfl (Nat.le_of_ble_eq_true rfl) ⟨by show cn + 0 ≤ 601024; omega, by show sn + 0 ≤ 7293034; omega⟩ dL_law_304 (aI0 (F := fun st M => P g X 7 307 [(0, .ref b), (1, .ref x), (2, .ref m), (3, .ref o), (4, .int i)] st _ _ M) (M := (K, len, I, J, R)) fun x1_  h1 => ?_)
  have k1_0 := h1
  show P g X 7 307 [(0, .ref b), (1, .ref x), (2, .ref m), (3, .ref o), (4, .int i)] [.int x1_] cn sn (K, len, I, J, R)
  refine r_pop hC dL_law_307 rfl ?_
  refine r_aload_n hC dL_law_308 2 rfl ?_
  refine r_callV hC (As := []) (rest := []) (ci := 10) (f_X10_where g (xL X) K len I J R hs m km ) mT_6_87 mT_1_10 mT_6_84 mT_6_85 mT_6_86 okX10_where ⟨by decide, by decide⟩ rfl (by show kO (K m) = _; rw [km]; rfl) rfl rfl (Nat.le_of_ble_eq_true rfl) ⟨by show cn + 0 ≤ 601024; omega, by show sn + 0 ≤ 7293034; omega⟩ dL_law_309 (aI1 (F := fun st M => P g X 7 312 [(0, .ref b), (1, .ref x), (2, .ref m), (3, .ref o), (4, .int i)] st _ _ M) (M := (K, len, I, J, R)) fun x2_ I2 h2 => ?_)
  obtain ⟨hs2, hf2, k2_0⟩ := h2
  show P g X 7 312 [(0, .ref b), (1, .ref x), (2, .ref m), (3, .ref o), (4, .int i)] [.int x2_] cn sn (K, len, I2, J, R)
  refine r_pop hC dL_law_312 rfl ?_
  refine r_goto hC (tgt := 1253) dL_law_313 (by decide) ?_
  refine r_sub [0, 1, 2, 3, 4] rfl ?_
  refine r_widen hC (k2 := cn + 18) (n2 := sn + 231) (by omega) (by omega) ?_
  exact kk K len I2 J R (hI.sil hs2 (Fr.refl (l := [])) hf2 rfl rfl rfl rfl rfl rfl rfl rfl rfl rfl)
set_option maxHeartbeats 4000000 in
set_option maxRecDepth 100000 in
theorem law_4 {g : GG} {X : XT} {b L : Nat} {xs : Nat → Int32} (hX : LX g X b L xs) {x m o tp bt te tk nr pr rd mt cn sn : Nat} {i : Int32} {K len : Nat → Nat} {I : Nat → Nat → Int32} {J : Nat → Nat → Int64} {R : Nat → Nat → Option Nat} (hI : LI x m o tp bt te tk nr pr rd mt K len I R) (hi : 0 ≤ i.toInt) (hiL : i.toInt + 6 ≤ L) (hcn : cn + 18 ≤ 601024) (hsn : sn + 231 ≤ 7293034) (kk : ∀ K' len' I' J' R', LI x m o tp bt te tk nr pr rd mt K' len' I' R' → P g X 7 1253 [(0, .ref b), (1, .ref x), (2, .ref m), (3, .ref o), (4, .int i)] [] (cn + 18) (sn + 231) (K', len', I', J', R')) : P g X 7 316 [(0, .ref b), (1, .ref x), (2, .ref m), (3, .ref o), (4, .int i)] [] cn sn (K, len, I, J, R) := by
  obtain ⟨hC, hcs, hl, hXs, hb, hbA, hL⟩ := hX
  obtain ⟨hs, la, ⟨h, s, lk, ls, lh, lr, lc⟩, lb, lv⟩ := id hI
  obtain ⟨hu, DA, rwd, scd, lcm⟩ := id lc
  obtain ⟨sd1, sd2, sd3, sd4, sd5, sd7, sd8, sd9⟩ := id scd
  obtain ⟨kx, km, ⟨ko, no⟩, ⟨htp, ktp⟩, ⟨hbb, kbt, nbt⟩, ⟨hte, kte⟩, ⟨htk, ktk⟩, hbt, ⟨hnr, knr, lnr⟩, ⟨hpr, kpr, lpr⟩, ⟨hrd, krd⟩, ⟨hmt, kmt, nmt⟩⟩ := id la
  obtain ⟨⟨hh, kh⟩, ⟨hs2, ks⟩, ⟨hlk2, klk⟩, ⟨hls, kls⟩, nhs, nls⟩ := id lh
  obtain ⟨lv1, lv2, lv3, lv4⟩ := id lv
  obtain ⟨lw, hlw, klw, llw⟩ := hs.row kx 4 41 60 (by decide) (by decide)
  obtain ⟨kn, hkn, kkn, lkn⟩ := hs.row kx 6 43 6 (by decide) (by decide)
  obtain ⟨tl, htl, ktl, ltl⟩ := hs.row kx 7 41 60 (by decide) (by decide)
  obtain ⟨lrw, hlrw, klrw, llrw⟩ := hs.row km 15 85 60 (by decide) (by decide)
  have nlt : lw ≠ tl := hu.ne hlw htl (by rw [klw]; decide) (Or.inr (by decide))
  refine r_aload_n hC dL_law_316 1 rfl ?_
  refine r_aload_n hC dL_law_317 0 rfl ?_
  refine r_iload hC dL_law_318 4 rfl ?_
  refine r_iconst hC (v := (1)) dL_law_320 (by decide) (by decide) (fun x1_ e1 t1 => ?_)
  refine r_iadd hC dL_law_321 (fun x2_ e2 => ?_)
  try have t2 : x2_.toInt = i.toInt + x1_.toInt := by rw [e2]; exact ti_add (by omega) (by omega)
  refine r_sld hC hXs hb hbA (by omega) (by omega) dL_law_322 (fun x3_ e3 => ?_)
  refine r_callV hC (As := [.int x3_]) (rest := []) (ci := 8) (f_X8_level g (xL X) K len I J R hs x kx x3_ h hh kh lw hlw klw llw DA (fun z => by rcases lr.2 with ⟨r3, n1, n2, n3, -⟩ | ⟨hm, r3, -⟩; exact absurd n3 z; exact (lcm hm r3).2.2.2.2 lw hlw)) mT_3_127 mT_1_1 mT_3_124 mT_3_125 mT_3_126 okX8_level ⟨by decide, by decide⟩ rfl (by show kO (K x) = _; rw [kx]; rfl) rfl rfl (Nat.le_of_ble_eq_true rfl) ⟨by show cn + 0 ≤ 601024; omega, by show sn + 0 ≤ 7293034; omega⟩ dL_law_323 (aI1 (F := fun st M => P g X 7 326 [(0, .ref b), (1, .ref x), (2, .ref m), (3, .ref o), (4, .int i)] st _ _ M) (M := (K, len, I, J, R)) fun x4_ I4 h4 => ?_)
  obtain ⟨hs4, hf4, k4_0, k4_1⟩ := h4
  show P g X 7 326 [(0, .ref b), (1, .ref x), (2, .ref m), (3, .ref o), (4, .int i)] [.int x4_] cn sn (K, len, I4, J, R)
  refine r_pop hC dL_law_326 rfl ?_
  refine r_aload_n hC dL_law_327 2 rfl ?_
  refine r_aload_n hC dL_law_328 0 rfl ?_
  refine r_iload hC dL_law_329 4 rfl ?_
  refine r_iconst hC (v := (1)) dL_law_331 (by decide) (by decide) (fun x5_ e5 t5 => ?_)
  refine r_iadd hC dL_law_332 (fun x6_ e6 => ?_)
  try have t6 : x6_.toInt = i.toInt + x5_.toInt := by rw [e6]; exact ti_add (by omega) (by omega)
  refine r_sld hC hXs hb hbA (by omega) (by omega) dL_law_333 (fun x7_ e7 => ?_)
  obtain rfl : x3_ = x7_ := sld_eq e3 e7 (by omega)
  refine r_callV hC (As := [.int x3_]) (rest := []) (ci := 10) (f_X10_level g (xL X) K len I4 J R hs4 m km x3_ DA (fun hm z => by obtain ⟨z1, z2, z3, z4, z5⟩ := lcm hm z; exact ⟨z2, z3.mv (CM_x hs z1) qM_big hf4 rfl, (by rw [hf4.get z1 rfl]; exact z4.1), (by rw [hf4.get z1 rfl]; exact z4.2.1), (by rw [hf4.get z1 rfl]; exact z4.2.2.1), (by rw [hf4.get z1 rfl]; exact z4.2.2.2.1)⟩) lrw hlrw klrw llrw) mT_6_91 mT_1_10 mT_6_88 mT_6_89 mT_6_90 okX10_level ⟨by decide, by decide⟩ rfl (by show kO (K m) = _; rw [km]; rfl) rfl rfl (Nat.le_of_ble_eq_true rfl) ⟨by show cn + 0 ≤ 601024; omega, by show sn + 0 ≤ 7293034; omega⟩ dL_law_334 (aI1 (F := fun st M => P g X 7 337 [(0, .ref b), (1, .ref x), (2, .ref m), (3, .ref o), (4, .int i)] st _ _ M) (M := (K, len, I4, J, R)) fun x8_ I8 h8 => ?_)
  obtain ⟨hs8, hf8, k8_0, k8_1⟩ := h8
  show P g X 7 337 [(0, .ref b), (1, .ref x), (2, .ref m), (3, .ref o), (4, .int i)] [.int x8_] cn sn (K, len, I8, J, R)
  have eqv : x4_.toInt = x8_.toInt := by
    rcases k8_0 with ⟨z9, y9⟩ | ⟨hm9, z9, y9⟩
    · rcases lr.2 with ⟨r3, n1, n2, n3, n4, n5, n6, n7, n8, n9, nr0⟩ | ⟨hm, r3, khm, m0, m1, m2, m3, m4, m5, m6, m7, m8, m9⟩
      · rcases k4_0 with ⟨w1, w2⟩ | ⟨w1, w2⟩
        · exact absurd n3 w1.1
        · rw [w2, y9]
      · rw [r3] at z9; cases z9
    · rcases lr.2 with ⟨r3, n1, n2, n3, n4, n5, n6, n7, n8, n9, nr0⟩ | ⟨hm, r3, khm, m0, m1, m2, m3, m4, m5, m6, m7, m8, m9⟩
      · rw [r3] at z9; cases z9
      · rcases k4_0 with ⟨w1, w2⟩ | ⟨w1, w2⟩
        · exact eq_two (Or.inl ⟨w1.2, w2⟩) y9
        · exact eq_two (Or.inr ⟨fun z => w1 ⟨by have h8 := m0; omega, z⟩, w2⟩) y9
  refine r_pop hC dL_law_337 rfl ?_
  refine r_goto hC (tgt := 1253) dL_law_338 (by decide) ?_
  refine r_sub [0, 1, 2, 3, 4] rfl ?_
  refine r_widen hC (k2 := cn + 18) (n2 := sn + 231) (by omega) (by omega) ?_
  exact kk K len I8 J R (hI.ref hs8 hf4 hf8 rfl rfl rfl rfl rfl rfl rfl k4_1 k8_1)
set_option maxHeartbeats 4000000 in
set_option maxRecDepth 100000 in
theorem law_5 {g : GG} {X : XT} {b L : Nat} {xs : Nat → Int32} (hX : LX g X b L xs) {x m o tp bt te tk nr pr rd mt cn sn : Nat} {i : Int32} {K len : Nat → Nat} {I : Nat → Nat → Int32} {J : Nat → Nat → Int64} {R : Nat → Nat → Option Nat} (hI : LI x m o tp bt te tk nr pr rd mt K len I R) (hi : 0 ≤ i.toInt) (hiL : i.toInt + 6 ≤ L) (hcn : cn + 18 ≤ 601024) (hsn : sn + 231 ≤ 7293034) (kk : ∀ K' len' I' J' R', LI x m o tp bt te tk nr pr rd mt K' len' I' R' → P g X 7 1253 [(0, .ref b), (1, .ref x), (2, .ref m), (3, .ref o), (4, .int i)] [] (cn + 18) (sn + 231) (K', len', I', J', R')) : P g X 7 341 [(0, .ref b), (1, .ref x), (2, .ref m), (3, .ref o), (4, .int i)] [] cn sn (K, len, I, J, R) := by
  obtain ⟨hC, hcs, hl, hXs, hb, hbA, hL⟩ := hX
  obtain ⟨hs, la, ⟨h, s, lk, ls, lh, lr, lc⟩, lb, lv⟩ := id hI
  obtain ⟨hu, DA, rwd, scd, lcm⟩ := id lc
  obtain ⟨sd1, sd2, sd3, sd4, sd5, sd7, sd8, sd9⟩ := id scd
  obtain ⟨kx, km, ⟨ko, no⟩, ⟨htp, ktp⟩, ⟨hbb, kbt, nbt⟩, ⟨hte, kte⟩, ⟨htk, ktk⟩, hbt, ⟨hnr, knr, lnr⟩, ⟨hpr, kpr, lpr⟩, ⟨hrd, krd⟩, ⟨hmt, kmt, nmt⟩⟩ := id la
  obtain ⟨⟨hh, kh⟩, ⟨hs2, ks⟩, ⟨hlk2, klk⟩, ⟨hls, kls⟩, nhs, nls⟩ := id lh
  obtain ⟨lv1, lv2, lv3, lv4⟩ := id lv
  obtain ⟨lw, hlw, klw, llw⟩ := hs.row kx 4 41 60 (by decide) (by decide)
  obtain ⟨kn, hkn, kkn, lkn⟩ := hs.row kx 6 43 6 (by decide) (by decide)
  obtain ⟨tl, htl, ktl, ltl⟩ := hs.row kx 7 41 60 (by decide) (by decide)
  obtain ⟨lrw, hlrw, klrw, llrw⟩ := hs.row km 15 85 60 (by decide) (by decide)
  have nlt : lw ≠ tl := hu.ne hlw htl (by rw [klw]; decide) (Or.inr (by decide))
  refine r_aload_n hC dL_law_341 1 rfl ?_
  refine r_aload_n hC dL_law_342 0 rfl ?_
  refine r_iload hC dL_law_343 4 rfl ?_
  refine r_iconst hC (v := (1)) dL_law_345 (by decide) (by decide) (fun x1_ e1 t1 => ?_)
  refine r_iadd hC dL_law_346 (fun x2_ e2 => ?_)
  try have t2 : x2_.toInt = i.toInt + x1_.toInt := by rw [e2]; exact ti_add (by omega) (by omega)
  refine r_sld hC hXs hb hbA (by omega) (by omega) dL_law_347 (fun x3_ e3 => ?_)
  refine r_aload_n hC dL_law_348 0 rfl ?_
  refine r_iload hC dL_law_349 4 rfl ?_
  refine r_iconst hC (v := (2)) dL_law_351 (by decide) (by decide) (fun x4_ e4 t4 => ?_)
  refine r_iadd hC dL_law_352 (fun x5_ e5 => ?_)
  try have t5 : x5_.toInt = i.toInt + x4_.toInt := by rw [e5]; exact ti_add (by omega) (by omega)
  refine r_sld hC hXs hb hbA (by omega) (by omega) dL_law_353 (fun x6_ e6 => ?_)
  refine r_callV hC (As := [.int x3_, .int x6_]) (rest := []) (ci := 8) (f_X8_plan g (xL X) K len I J R hs x kx x3_ x6_ h hh kh lk hlk2 klk hu DA rwd sd4 sd1 sd2 sd3 lw hlw klw llw kn hkn kkn lkn (fun z => by rcases lr.2 with ⟨r3, n1, n2, n3, -⟩ | ⟨hm, r3, -⟩; exact absurd n3 z; exact (lcm hm r3).2.1)) mT_3_138 mT_1_1 mT_3_135 mT_3_136 mT_3_137 okX8_plan ⟨by decide, by decide⟩ rfl (by show kO (K x) = _; rw [kx]; rfl) rfl rfl (Nat.le_of_ble_eq_true rfl) ⟨by show cn + 0 ≤ 601024; omega, by show sn + 0 ≤ 7293034; omega⟩ dL_law_354 (aI1 (F := fun st M => P g X 7 357 [(0, .ref b), (1, .ref x), (2, .ref m), (3, .ref o), (4, .int i)] st _ _ M) (M := (K, len, I, J, R)) fun x7_ I7 h7 => ?_)
  obtain ⟨hs7, hf7, k7_0, k7_1, k7_2, k7_3⟩ := h7
  show P g X 7 357 [(0, .ref b), (1, .ref x), (2, .ref m), (3, .ref o), (4, .int i)] [.int x7_] cn sn (K, len, I7, J, R)
  refine r_pop hC dL_law_357 rfl ?_
  refine r_aload_n hC dL_law_358 2 rfl ?_
  refine r_aload_n hC dL_law_359 0 rfl ?_
  refine r_iload hC dL_law_360 4 rfl ?_
  refine r_iconst hC (v := (1)) dL_law_362 (by decide) (by decide) (fun x8_ e8 t8 => ?_)
  refine r_iadd hC dL_law_363 (fun x9_ e9 => ?_)
  try have t9 : x9_.toInt = i.toInt + x8_.toInt := by rw [e9]; exact ti_add (by omega) (by omega)
  refine r_sld hC hXs hb hbA (by omega) (by omega) dL_law_364 (fun x10_ e10 => ?_)
  obtain rfl : x3_ = x10_ := sld_eq e3 e10 (by omega)
  refine r_aload_n hC dL_law_365 0 rfl ?_
  refine r_iload hC dL_law_366 4 rfl ?_
  refine r_iconst hC (v := (2)) dL_law_368 (by decide) (by decide) (fun x11_ e11 t11 => ?_)
  refine r_iadd hC dL_law_369 (fun x12_ e12 => ?_)
  try have t12 : x12_.toInt = i.toInt + x11_.toInt := by rw [e12]; exact ti_add (by omega) (by omega)
  refine r_sld hC hXs hb hbA (by omega) (by omega) dL_law_370 (fun x13_ e13 => ?_)
  obtain rfl : x6_ = x13_ := sld_eq e6 e13 (by omega)
  refine r_callV hC (As := [.int x3_, .int x6_]) (rest := []) (ci := 10) (f_X10_plan g (xL X) K len I7 J R hs7 m km x3_ x6_ DA (fun hm z => by obtain ⟨z1, z2, z3, z4, z5⟩ := lcm hm z; exact ⟨z3.mv (CM_x hs z1) qM_big hf7 rfl, by rw [hf7.get z1 rfl]; exact z4.2.2.2.1⟩)) mT_6_107 mT_1_10 mT_6_104 mT_6_105 mT_6_106 okX10_plan ⟨by decide, by decide⟩ rfl (by show kO (K m) = _; rw [km]; rfl) rfl rfl (Nat.le_of_ble_eq_true rfl) ⟨by show cn + 0 ≤ 601024; omega, by show sn + 0 ≤ 7293034; omega⟩ dL_law_371 (aI1 (F := fun st M => P g X 7 374 [(0, .ref b), (1, .ref x), (2, .ref m), (3, .ref o), (4, .int i)] st _ _ M) (M := (K, len, I7, J, R)) fun x14_ I14 h14 => ?_)
  obtain ⟨hs14, hf14, k14_0, k14_1, k14_2⟩ := h14
  show P g X 7 374 [(0, .ref b), (1, .ref x), (2, .ref m), (3, .ref o), (4, .int i)] [.int x14_] cn sn (K, len, I14, J, R)
  have lbv := LBV.ref la lb lv hf7 hf14 rfl rfl rfl k7_3 k14_2
  have t_h1 : (I14 h 1).toInt = (I h 1).toInt := congrArg Int32.toInt ((hf14.get kh rfl).trans (hf7.get kh rfl))
  have t_h4 : (I14 h 4).toInt = (I h 4).toInt := congrArg Int32.toInt ((hf14.get kh rfl).trans (hf7.get kh rfl))
  have t_h6 : (I14 h 6).toInt = (I h 6).toInt := congrArg Int32.toInt ((hf14.get kh rfl).trans (hf7.get kh rfl))
  have t_h8 : (I14 h 8).toInt = (I h 8).toInt := congrArg Int32.toInt ((hf14.get kh rfl).trans (hf7.get kh rfl))
  have t_h12 : (I14 h 12).toInt = (I h 12).toInt := congrArg Int32.toInt ((hf14.get kh rfl).trans (hf7.get kh rfl))
  have t_lk1 : (I14 lk 1).toInt = (I lk 1).toInt := congrArg Int32.toInt ((hf14.get klk rfl).trans (hf7.get klk rfl))
  have t_lk3 : (I14 lk 3).toInt = (I lk 3).toInt := congrArg Int32.toInt ((hf14.get klk rfl).trans (hf7.get klk rfl))
  have t_lk4 : (I14 lk 4).toInt = (I7 lk 4).toInt := congrArg Int32.toInt (hf14.get klk rfl)
  have t_lk5 : (I14 lk 5).toInt = (I7 lk 5).toInt := congrArg Int32.toInt (hf14.get klk rfl)
  have t_rd0 : (I14 rd 0).toInt = (I rd 0).toInt := congrArg Int32.toInt ((hf14.get krd rfl).trans (hf7.get krd rfl))
  have t_m20 : (I14 m 20).toInt = (I m 20).toInt := congrArg Int32.toInt ((hf14.get km rfl).trans (hf7.get km rfl))
  rcases lr.2 with ⟨r3, n1, n2, n3, n4, n5, n6, n7, n8, n9, nr0⟩ | ⟨hm, r3, khm, m0, m1, m2, m3, m4, m5, m6, m7, m8, m9⟩
  · have pq := k14_0
    rcases pq with ⟨-, pq⟩ | ⟨hm9, z9, -⟩
    rotate_left
    · rw [r3] at z9; cases z9
    have ip := int_planN n3 k7_0
    have lrn : LR h lk rd m K I14 R := ⟨t_rd0.trans (lr.1.trans t_m20.symm), Or.inl ⟨r3, t_h1.trans n1, t_h4.trans n2, t_h6.trans n3, t_h8.trans n4, t_h12.trans n5, t_lk1.trans n6, t_lk3.trans n7, t_lk4.trans (ip.2.1.trans n8), t_lk5.trans (ip.2.2.trans n9), t_rd0.trans nr0⟩⟩
    have lcn : LC x h lk m K I14 R := by
      by_cases hc8 : (I h 6).toInt ≠ 0 ∧ 0 ≤ x3_.toInt ∧ x3_.toInt ≤ 59 ∧ 0 ≤ x6_.toInt ∧ x6_.toInt ≤ 999 ∧ (I lk 4).toInt < 16
      · refine LC.step hs kh klk hu scd hf7 hf14 rfl rfl rfl (fun _ => rfl) (fun _ => rfl) (fun _ => rfl) (fun _ => rfl) rfl rfl rfl rfl rfl rfl rfl rfl kx (fun _ => rfl) (D' := (aFrom DA x3_.toInt x6_.toInt)) (fun k hk => aFrom_0 k hk) (k7_1.1 hc8) (by have h9 := k7_0; have h8 := sd4; rw [aFrom_4]; omega) (fun hm9 z9 => ?_)
        rw [r3] at z9; cases z9
      · refine LC.step hs kh klk hu scd hf7 hf14 rfl rfl rfl (fun _ => rfl) (fun _ => rfl) (fun _ => rfl) (fun _ => rfl) rfl rfl rfl rfl rfl rfl rfl rfl kx (fun _ => rfl) (D' := DA) (fun k hk => rfl) (k7_1.2 hc8) (by have h9 := k7_0; have h8 := sd4; omega) (fun hm9 z9 => ?_)
        rw [r3] at z9; cases z9
    have eqv : x7_.toInt = x14_.toInt := ip.1.trans pq.symm
    refine r_pop hC dL_law_374 rfl ?_
    refine r_goto hC (tgt := 1253) dL_law_375 (by decide) ?_
    refine r_sub [0, 1, 2, 3, 4] rfl ?_
    refine r_widen hC (k2 := cn + 18) (n2 := sn + 231) (Nat.le_add_right _ _) (Nat.le_add_right _ _) ?_
    exact kk K len I14 J R ⟨hs14, la, ⟨h, s, lk, ls, lh, lrn, lcn⟩, lbv⟩
  · have pq := k14_0
    rcases pq with ⟨z9, -⟩ | ⟨hm9, z9, pq⟩
    · rw [r3] at z9; cases z9
    rw [r3] at z9; cases z9
    have t_h1 : (I14 h 1).toInt = (I h 1).toInt := congrArg Int32.toInt ((hf14.get kh rfl).trans (hf7.get kh rfl))
    have t_h4 : (I14 h 4).toInt = (I h 4).toInt := congrArg Int32.toInt ((hf14.get kh rfl).trans (hf7.get kh rfl))
    have t_h6 : (I14 h 6).toInt = (I h 6).toInt := congrArg Int32.toInt ((hf14.get kh rfl).trans (hf7.get kh rfl))
    have t_h8 : (I14 h 8).toInt = (I h 8).toInt := congrArg Int32.toInt ((hf14.get kh rfl).trans (hf7.get kh rfl))
    have t_h12 : (I14 h 12).toInt = (I h 12).toInt := congrArg Int32.toInt ((hf14.get kh rfl).trans (hf7.get kh rfl))
    have t_lk1 : (I14 lk 1).toInt = (I lk 1).toInt := congrArg Int32.toInt ((hf14.get klk rfl).trans (hf7.get klk rfl))
    have t_lk3 : (I14 lk 3).toInt = (I lk 3).toInt := congrArg Int32.toInt ((hf14.get klk rfl).trans (hf7.get klk rfl))
    have t_lk4 : (I14 lk 4).toInt = (I7 lk 4).toInt := congrArg Int32.toInt (hf14.get klk rfl)
    have t_lk5 : (I14 lk 5).toInt = (I7 lk 5).toInt := congrArg Int32.toInt (hf14.get klk rfl)
    have t_rd0 : (I14 rd 0).toInt = (I rd 0).toInt := congrArg Int32.toInt ((hf14.get krd rfl).trans (hf7.get krd rfl))
    have t_m20 : (I14 m 20).toInt = (I m 20).toInt := congrArg Int32.toInt ((hf14.get km rfl).trans (hf7.get km rfl))
    have t_hm0 : (I14 hm 0).toInt = (I hm 0).toInt := congrArg Int32.toInt ((hf14.get khm rfl).trans (hf7.get khm rfl))
    have t_hm2 : (I14 hm 2).toInt = (I hm 2).toInt := congrArg Int32.toInt ((hf14.get khm rfl).trans (hf7.get khm rfl))
    have t_hm3 : (I14 hm 3).toInt = (I hm 3).toInt := congrArg Int32.toInt ((hf14.get khm rfl).trans (hf7.get khm rfl))
    have t_hm4 : (I7 hm 4).toInt = (I hm 4).toInt := congrArg Int32.toInt (hf7.get khm rfl)
    have t_hm5 : (I14 hm 5).toInt = (I hm 5).toInt := congrArg Int32.toInt ((hf14.get khm rfl).trans (hf7.get khm rfl))
    have t_hm6 : (I14 hm 6).toInt = (I hm 6).toInt := congrArg Int32.toInt ((hf14.get khm rfl).trans (hf7.get khm rfl))
    have t_hm7 : (I14 hm 7).toInt = (I hm 7).toInt := congrArg Int32.toInt ((hf14.get khm rfl).trans (hf7.get khm rfl))
    have t_hm8 : (I14 hm 8).toInt = (I hm 8).toInt := congrArg Int32.toInt ((hf14.get khm rfl).trans (hf7.get khm rfl))
    have t_hm9 : (I14 hm 9).toInt = (I hm 9).toInt := congrArg Int32.toInt ((hf14.get khm rfl).trans (hf7.get khm rfl))
    have ip := int_plan m0 (m8.trans t_hm4.symm) (show (I lk 5).toInt = (I7 hm 4).toInt - (I hm 5).toInt by rw [t_hm4]; exact m9) k7_0 pq
    have lrn : LR h lk rd m K I14 R := ⟨t_rd0.trans (lr.1.trans t_m20.symm), Or.inr ⟨hm, r3, khm, by rw [t_h6]; exact m0, t_h1.trans (m1.trans t_hm3.symm), t_h4.trans (m2.trans t_hm6.symm), t_h6.trans (m3.trans t_hm7.symm), t_h8.trans (m4.trans t_hm8.symm), t_h12.trans (m5.trans t_hm9.symm), t_lk1.trans (m6.trans t_hm0.symm), t_lk3.trans (m7.trans t_hm2.symm), t_lk4.trans ip.2.1, t_lk5.trans (ip.2.2.trans (by rw [t_hm5]))⟩⟩
    have lcn : LC x h lk m K I14 R := by
      by_cases hc8 : (I h 6).toInt ≠ 0 ∧ 0 ≤ x3_.toInt ∧ x3_.toInt ≤ 59 ∧ 0 ≤ x6_.toInt ∧ x6_.toInt ≤ 999 ∧ (I lk 4).toInt < 16
      · refine LC.step hs kh klk hu scd hf7 hf14 rfl rfl rfl (fun _ => rfl) (fun _ => rfl) (fun _ => rfl) (fun _ => rfl) rfl rfl rfl rfl rfl rfl rfl rfl kx (fun _ => rfl) (D' := (aFrom DA x3_.toInt x6_.toInt)) (fun k hk => aFrom_0 k hk) (k7_1.1 hc8) (by have h9 := k7_0; have h8 := sd4; rw [aFrom_4]; omega) (fun hm9 z9 => ?_)
        rw [r3] at z9; cases z9
        obtain ⟨z1, z2, z3, z4, z5⟩ := lcm hm r3
        have h44 := z4.2.2.2.1
        have k9 := k14_1 hm r3
        have hf4 : (I7 hm 4).toInt = (I hm 4).toInt := congrArg Int32.toInt (hf7.get z1 rfl)
        have c10 : 0 ≤ x3_.toInt ∧ x3_.toInt ≤ 59 ∧ 0 ≤ x6_.toInt ∧ x6_.toInt ≤ 999 ∧ (I7 hm 4).toInt < 16 := ⟨hc8.2.1, hc8.2.2.1, hc8.2.2.2.1, hc8.2.2.2.2.1, by have h9 := hc8.2.2.2.2.2; omega⟩
        have q4 : (I14 hm 4).toInt = (I7 hm 4).toInt + 1 := by rcases pq with ⟨y1, y2, y3⟩ | ⟨y1, y2, y3⟩; exact y3; exact absurd c10 y1
        exact ⟨z1, (dj_aFrom z2 ⟨hc8.2.1, hc8.2.2.1⟩ ⟨hc8.2.2.2.1, hc8.2.2.2.2.1⟩), k9.1 c10, z4, by rw [aFrom_4]; omega, fun l2 zl => by rw [hlw] at zl; cases zl; exact k7_2.1 hc8⟩
      · refine LC.step hs kh klk hu scd hf7 hf14 rfl rfl rfl (fun _ => rfl) (fun _ => rfl) (fun _ => rfl) (fun _ => rfl) rfl rfl rfl rfl rfl rfl rfl rfl kx (fun _ => rfl) (D' := DA) (fun k hk => rfl) (k7_1.2 hc8) (by have h9 := k7_0; have h8 := sd4; omega) (fun hm9 z9 => ?_)
        rw [r3] at z9; cases z9
        obtain ⟨z1, z2, z3, z4, z5⟩ := lcm hm r3
        have h44 := z4.2.2.2.1
        have k9 := k14_1 hm r3
        have hf4 : (I7 hm 4).toInt = (I hm 4).toInt := congrArg Int32.toInt (hf7.get z1 rfl)
        have c10 : ¬ (0 ≤ x3_.toInt ∧ x3_.toInt ≤ 59 ∧ 0 ≤ x6_.toInt ∧ x6_.toInt ≤ 999 ∧ (I7 hm 4).toInt < 16) := fun h9 => hc8 ⟨by have h8 := m0; omega, h9.1, h9.2.1, h9.2.2.1, h9.2.2.2.1, by have h8 := h9.2.2.2.2; omega⟩
        have q4 : (I14 hm 4).toInt = (I7 hm 4).toInt := by rcases pq with ⟨y1, y2, y3⟩ | ⟨y1, y2, y3⟩; exact absurd y1 c10; exact y3
        exact ⟨z1, z2, k9.2 c10, z4, by omega, fun l2 zl => by rw [hlw] at zl; cases zl; exact (z5 lw hlw).eq (k7_2.2 hc8)⟩
    have eqv : x7_.toInt = x14_.toInt := ip.1
    refine r_pop hC dL_law_374 rfl ?_
    refine r_goto hC (tgt := 1253) dL_law_375 (by decide) ?_
    refine r_sub [0, 1, 2, 3, 4] rfl ?_
    refine r_widen hC (k2 := cn + 18) (n2 := sn + 231) (Nat.le_add_right _ _) (Nat.le_add_right _ _) ?_
    exact kk K len I14 J R ⟨hs14, la, ⟨h, s, lk, ls, lh, lrn, lcn⟩, lbv⟩
set_option maxHeartbeats 4000000 in
set_option maxRecDepth 100000 in
theorem law_6 {g : GG} {X : XT} {b L : Nat} {xs : Nat → Int32} (hX : LX g X b L xs) {x m o tp bt te tk nr pr rd mt cn sn : Nat} {i : Int32} {K len : Nat → Nat} {I : Nat → Nat → Int32} {J : Nat → Nat → Int64} {R : Nat → Nat → Option Nat} (hI : LI x m o tp bt te tk nr pr rd mt K len I R) (hi : 0 ≤ i.toInt) (hiL : i.toInt + 6 ≤ L) (hcn : cn + 18 ≤ 601024) (hsn : sn + 231 ≤ 7293034) (kk : ∀ K' len' I' J' R', LI x m o tp bt te tk nr pr rd mt K' len' I' R' → P g X 7 1253 [(0, .ref b), (1, .ref x), (2, .ref m), (3, .ref o), (4, .int i)] [] (cn + 18) (sn + 231) (K', len', I', J', R')) : P g X 7 378 [(0, .ref b), (1, .ref x), (2, .ref m), (3, .ref o), (4, .int i)] [] cn sn (K, len, I, J, R) := by
  obtain ⟨hC, hcs, hl, hXs, hb, hbA, hL⟩ := hX
  obtain ⟨hs, la, ⟨h, s, lk, ls, lh, lr, lc⟩, lb, lv⟩ := id hI
  obtain ⟨hu, DA, rwd, scd, lcm⟩ := id lc
  obtain ⟨sd1, sd2, sd3, sd4, sd5, sd7, sd8, sd9⟩ := id scd
  obtain ⟨kx, km, ⟨ko, no⟩, ⟨htp, ktp⟩, ⟨hbb, kbt, nbt⟩, ⟨hte, kte⟩, ⟨htk, ktk⟩, hbt, ⟨hnr, knr, lnr⟩, ⟨hpr, kpr, lpr⟩, ⟨hrd, krd⟩, ⟨hmt, kmt, nmt⟩⟩ := id la
  obtain ⟨⟨hh, kh⟩, ⟨hs2, ks⟩, ⟨hlk2, klk⟩, ⟨hls, kls⟩, nhs, nls⟩ := id lh
  obtain ⟨lv1, lv2, lv3, lv4⟩ := id lv
  obtain ⟨lw, hlw, klw, llw⟩ := hs.row kx 4 41 60 (by decide) (by decide)
  obtain ⟨kn, hkn, kkn, lkn⟩ := hs.row kx 6 43 6 (by decide) (by decide)
  obtain ⟨tl, htl, ktl, ltl⟩ := hs.row kx 7 41 60 (by decide) (by decide)
  obtain ⟨lrw, hlrw, klrw, llrw⟩ := hs.row km 15 85 60 (by decide) (by decide)
  have nlt : lw ≠ tl := hu.ne hlw htl (by rw [klw]; decide) (Or.inr (by decide))
  refine r_aload_n hC dL_law_378 1 rfl ?_
  refine r_callV hC (As := []) (rest := []) (ci := 8) (f_X8_undo g (xL X) K len I J R hs x kx  h hh kh lk hlk2 klk hu DA rwd sd4 sd1 sd2 sd3 lw hlw klw llw kn hkn kkn lkn (fun z => by rcases lr.2 with ⟨r3, n1, n2, n3, n4, n5, n6, n7, n8, n9, nr0⟩ | ⟨hm, r3, -⟩; omega; exact (lcm hm r3).2.1)) mT_3_143 mT_1_1 mT_3_140 mT_3_141 mT_3_142 okX8_undo ⟨by decide, by decide⟩ rfl (by show kO (K x) = _; rw [kx]; rfl) rfl rfl (Nat.le_of_ble_eq_true rfl) ⟨by show cn + 0 ≤ 601024; omega, by show sn + 0 ≤ 7293034; omega⟩ dL_law_379 (aI1 (F := fun st M => P g X 7 382 [(0, .ref b), (1, .ref x), (2, .ref m), (3, .ref o), (4, .int i)] st _ _ M) (M := (K, len, I, J, R)) fun x1_ I1 h1 => ?_)
  obtain ⟨hs1, hf1, k1_0, k1_1, k1_2, k1_3⟩ := h1
  show P g X 7 382 [(0, .ref b), (1, .ref x), (2, .ref m), (3, .ref o), (4, .int i)] [.int x1_] cn sn (K, len, I1, J, R)
  refine r_pop hC dL_law_382 rfl ?_
  refine r_aload_n hC dL_law_383 2 rfl ?_
  refine r_callV hC (As := []) (rest := []) (ci := 10) (f_X10_undo g (xL X) K len I1 J R hs1 m km  DA (fun hm z => by obtain ⟨z1, z2, z3, z4, z5⟩ := lcm hm z; exact ⟨z3.mv (CM_x hs z1) qM_big hf1 rfl, by rw [hf1.get z1 rfl]; exact z4.2.2.2.1⟩)) mT_6_111 mT_1_10 mT_6_108 mT_6_109 mT_6_110 okX10_undo ⟨by decide, by decide⟩ rfl (by show kO (K m) = _; rw [km]; rfl) rfl rfl (Nat.le_of_ble_eq_true rfl) ⟨by show cn + 0 ≤ 601024; omega, by show sn + 0 ≤ 7293034; omega⟩ dL_law_384 (aI1 (F := fun st M => P g X 7 387 [(0, .ref b), (1, .ref x), (2, .ref m), (3, .ref o), (4, .int i)] st _ _ M) (M := (K, len, I1, J, R)) fun x2_ I2 h2 => ?_)
  obtain ⟨hs2, hf2, k2_0, k2_1, k2_2⟩ := h2
  show P g X 7 387 [(0, .ref b), (1, .ref x), (2, .ref m), (3, .ref o), (4, .int i)] [.int x2_] cn sn (K, len, I2, J, R)
  have lbv := LBV.ref la lb lv hf1 hf2 rfl rfl rfl k1_3 k2_2
  have t_h1 : (I2 h 1).toInt = (I h 1).toInt := congrArg Int32.toInt ((hf2.get kh rfl).trans (hf1.get kh rfl))
  have t_h4 : (I2 h 4).toInt = (I h 4).toInt := congrArg Int32.toInt ((hf2.get kh rfl).trans (hf1.get kh rfl))
  have t_h6 : (I2 h 6).toInt = (I h 6).toInt := congrArg Int32.toInt ((hf2.get kh rfl).trans (hf1.get kh rfl))
  have t_h8 : (I2 h 8).toInt = (I h 8).toInt := congrArg Int32.toInt ((hf2.get kh rfl).trans (hf1.get kh rfl))
  have t_h12 : (I2 h 12).toInt = (I h 12).toInt := congrArg Int32.toInt ((hf2.get kh rfl).trans (hf1.get kh rfl))
  have t_lk1 : (I2 lk 1).toInt = (I lk 1).toInt := congrArg Int32.toInt ((hf2.get klk rfl).trans (hf1.get klk rfl))
  have t_lk3 : (I2 lk 3).toInt = (I lk 3).toInt := congrArg Int32.toInt ((hf2.get klk rfl).trans (hf1.get klk rfl))
  have t_lk4 : (I2 lk 4).toInt = (I1 lk 4).toInt := congrArg Int32.toInt (hf2.get klk rfl)
  have t_lk5 : (I2 lk 5).toInt = (I1 lk 5).toInt := congrArg Int32.toInt (hf2.get klk rfl)
  have t_rd0 : (I2 rd 0).toInt = (I rd 0).toInt := congrArg Int32.toInt ((hf2.get krd rfl).trans (hf1.get krd rfl))
  have t_m20 : (I2 m 20).toInt = (I m 20).toInt := congrArg Int32.toInt ((hf2.get km rfl).trans (hf1.get km rfl))
  rcases lr.2 with ⟨r3, n1, n2, n3, n4, n5, n6, n7, n8, n9, nr0⟩ | ⟨hm, r3, khm, m0, m1, m2, m3, m4, m5, m6, m7, m8, m9⟩
  · have pq := k2_0
    rcases pq with ⟨-, pq⟩ | ⟨hm9, z9, -⟩
    rotate_left
    · rw [r3] at z9; cases z9
    have ip := int_undoN n9 k1_0
    have lrn : LR h lk rd m K I2 R := ⟨t_rd0.trans (lr.1.trans t_m20.symm), Or.inl ⟨r3, t_h1.trans n1, t_h4.trans n2, t_h6.trans n3, t_h8.trans n4, t_h12.trans n5, t_lk1.trans n6, t_lk3.trans n7, t_lk4.trans (ip.2.1.trans n8), t_lk5.trans (ip.2.2.trans n9), t_rd0.trans nr0⟩⟩
    have lcn : LC x h lk m K I2 R := by
      by_cases hc8 : 0 < (I lk 5).toInt
      · refine LC.step hs kh klk hu scd hf1 hf2 rfl rfl rfl (fun _ => rfl) (fun _ => rfl) (fun _ => rfl) (fun _ => rfl) rfl rfl rfl rfl rfl rfl rfl rfl kx (fun _ => rfl) (D' := (upD DA 0 4 (DA 0 4 - 1))) (fun k hk => by simp [upD, hk]) (k1_1.1 hc8) (by have h9 := k1_0; have h8 := sd4; rw [upD_s]; omega) (fun hm9 z9 => ?_)
        rw [r3] at z9; cases z9
      · refine LC.step hs kh klk hu scd hf1 hf2 rfl rfl rfl (fun _ => rfl) (fun _ => rfl) (fun _ => rfl) (fun _ => rfl) rfl rfl rfl rfl rfl rfl rfl rfl kx (fun _ => rfl) (D' := DA) (fun k hk => rfl) (k1_1.2 hc8) (by have h9 := k1_0; have h8 := sd4; omega) (fun hm9 z9 => ?_)
        rw [r3] at z9; cases z9
    have eqv : x1_.toInt = x2_.toInt := ip.1.trans pq.symm
    refine r_pop hC dL_law_387 rfl ?_
    refine r_goto hC (tgt := 1253) dL_law_388 (by decide) ?_
    refine r_sub [0, 1, 2, 3, 4] rfl ?_
    refine r_widen hC (k2 := cn + 18) (n2 := sn + 231) (Nat.le_add_right _ _) (Nat.le_add_right _ _) ?_
    exact kk K len I2 J R ⟨hs2, la, ⟨h, s, lk, ls, lh, lrn, lcn⟩, lbv⟩
  · have pq := k2_0
    rcases pq with ⟨z9, -⟩ | ⟨hm9, z9, pq⟩
    · rw [r3] at z9; cases z9
    rw [r3] at z9; cases z9
    have t_h1 : (I2 h 1).toInt = (I h 1).toInt := congrArg Int32.toInt ((hf2.get kh rfl).trans (hf1.get kh rfl))
    have t_h4 : (I2 h 4).toInt = (I h 4).toInt := congrArg Int32.toInt ((hf2.get kh rfl).trans (hf1.get kh rfl))
    have t_h6 : (I2 h 6).toInt = (I h 6).toInt := congrArg Int32.toInt ((hf2.get kh rfl).trans (hf1.get kh rfl))
    have t_h8 : (I2 h 8).toInt = (I h 8).toInt := congrArg Int32.toInt ((hf2.get kh rfl).trans (hf1.get kh rfl))
    have t_h12 : (I2 h 12).toInt = (I h 12).toInt := congrArg Int32.toInt ((hf2.get kh rfl).trans (hf1.get kh rfl))
    have t_lk1 : (I2 lk 1).toInt = (I lk 1).toInt := congrArg Int32.toInt ((hf2.get klk rfl).trans (hf1.get klk rfl))
    have t_lk3 : (I2 lk 3).toInt = (I lk 3).toInt := congrArg Int32.toInt ((hf2.get klk rfl).trans (hf1.get klk rfl))
    have t_lk4 : (I2 lk 4).toInt = (I1 lk 4).toInt := congrArg Int32.toInt (hf2.get klk rfl)
    have t_lk5 : (I2 lk 5).toInt = (I1 lk 5).toInt := congrArg Int32.toInt (hf2.get klk rfl)
    have t_rd0 : (I2 rd 0).toInt = (I rd 0).toInt := congrArg Int32.toInt ((hf2.get krd rfl).trans (hf1.get krd rfl))
    have t_m20 : (I2 m 20).toInt = (I m 20).toInt := congrArg Int32.toInt ((hf2.get km rfl).trans (hf1.get km rfl))
    have t_hm0 : (I2 hm 0).toInt = (I hm 0).toInt := congrArg Int32.toInt ((hf2.get khm rfl).trans (hf1.get khm rfl))
    have t_hm2 : (I2 hm 2).toInt = (I hm 2).toInt := congrArg Int32.toInt ((hf2.get khm rfl).trans (hf1.get khm rfl))
    have t_hm3 : (I2 hm 3).toInt = (I hm 3).toInt := congrArg Int32.toInt ((hf2.get khm rfl).trans (hf1.get khm rfl))
    have t_hm4 : (I1 hm 4).toInt = (I hm 4).toInt := congrArg Int32.toInt (hf1.get khm rfl)
    have t_hm5 : (I2 hm 5).toInt = (I hm 5).toInt := congrArg Int32.toInt ((hf2.get khm rfl).trans (hf1.get khm rfl))
    have t_hm6 : (I2 hm 6).toInt = (I hm 6).toInt := congrArg Int32.toInt ((hf2.get khm rfl).trans (hf1.get khm rfl))
    have t_hm7 : (I2 hm 7).toInt = (I hm 7).toInt := congrArg Int32.toInt ((hf2.get khm rfl).trans (hf1.get khm rfl))
    have t_hm8 : (I2 hm 8).toInt = (I hm 8).toInt := congrArg Int32.toInt ((hf2.get khm rfl).trans (hf1.get khm rfl))
    have t_hm9 : (I2 hm 9).toInt = (I hm 9).toInt := congrArg Int32.toInt ((hf2.get khm rfl).trans (hf1.get khm rfl))
    have t_hm5b : (I1 hm 5).toInt = (I hm 5).toInt := congrArg Int32.toInt (hf1.get khm rfl)
    have ip := int_undo (m8.trans t_hm4.symm) (show (I lk 5).toInt = (I1 hm 4).toInt - (I1 hm 5).toInt by rw [t_hm4, t_hm5b]; exact m9) (by rw [t_hm4, t_hm5b]; exact hs.told khm) k1_0 pq
    have lrn : LR h lk rd m K I2 R := ⟨t_rd0.trans (lr.1.trans t_m20.symm), Or.inr ⟨hm, r3, khm, by rw [t_h6]; exact m0, t_h1.trans (m1.trans t_hm3.symm), t_h4.trans (m2.trans t_hm6.symm), t_h6.trans (m3.trans t_hm7.symm), t_h8.trans (m4.trans t_hm8.symm), t_h12.trans (m5.trans t_hm9.symm), t_lk1.trans (m6.trans t_hm0.symm), t_lk3.trans (m7.trans t_hm2.symm), t_lk4.trans ip.2.1, t_lk5.trans (ip.2.2.trans (by rw [t_hm5, t_hm5b]))⟩⟩
    have lcn : LC x h lk m K I2 R := by
      by_cases hc8 : 0 < (I lk 5).toInt
      · refine LC.step hs kh klk hu scd hf1 hf2 rfl rfl rfl (fun _ => rfl) (fun _ => rfl) (fun _ => rfl) (fun _ => rfl) rfl rfl rfl rfl rfl rfl rfl rfl kx (fun _ => rfl) (D' := (upD DA 0 4 (DA 0 4 - 1))) (fun k hk => by simp [upD, hk]) (k1_1.1 hc8) (by have h9 := k1_0; have h8 := sd4; rw [upD_s]; omega) (fun hm9 z9 => ?_)
        rw [r3] at z9; cases z9
        obtain ⟨z1, z2, z3, z4, z5⟩ := lcm hm r3
        have h44 := z4.2.2.2.1
        have k9 := k2_1 hm r3
        have hf4 : (I1 hm 4).toInt = (I hm 4).toInt := congrArg Int32.toInt (hf1.get z1 rfl)
        have hf5 : (I1 hm 5).toInt = (I hm 5).toInt := congrArg Int32.toInt (hf1.get z1 rfl)
        have htl := hs.told z1
        have c10 : (I1 hm 4).toInt ≠ (I1 hm 5).toInt := (by omega)
        have q4 : (I2 hm 4).toInt = (I1 hm 4).toInt - 1 := by rcases pq with ⟨y1, y2, y3⟩ | ⟨y1, y2, y3⟩; exact y3; exact absurd y1 c10
        exact ⟨z1, (dj_u4 z2), k9.1 c10, z4, by rw [upD_s]; omega, fun l2 zl => by rw [hlw] at zl; cases zl; exact k1_2.1 hc8⟩
      · refine LC.step hs kh klk hu scd hf1 hf2 rfl rfl rfl (fun _ => rfl) (fun _ => rfl) (fun _ => rfl) (fun _ => rfl) rfl rfl rfl rfl rfl rfl rfl rfl kx (fun _ => rfl) (D' := DA) (fun k hk => rfl) (k1_1.2 hc8) (by have h9 := k1_0; have h8 := sd4; omega) (fun hm9 z9 => ?_)
        rw [r3] at z9; cases z9
        obtain ⟨z1, z2, z3, z4, z5⟩ := lcm hm r3
        have h44 := z4.2.2.2.1
        have k9 := k2_1 hm r3
        have hf4 : (I1 hm 4).toInt = (I hm 4).toInt := congrArg Int32.toInt (hf1.get z1 rfl)
        have hf5 : (I1 hm 5).toInt = (I hm 5).toInt := congrArg Int32.toInt (hf1.get z1 rfl)
        have htl := hs.told z1
        have c10 : ¬ ((I1 hm 4).toInt ≠ (I1 hm 5).toInt) := (by omega)
        have q4 : (I2 hm 4).toInt = (I1 hm 4).toInt := by rcases pq with ⟨y1, y2, y3⟩ | ⟨y1, y2, y3⟩; exact absurd y1 c10; exact y3
        exact ⟨z1, z2, k9.2 c10, z4, by omega, fun l2 zl => by rw [hlw] at zl; cases zl; exact (z5 lw hlw).eq (k1_2.2 hc8)⟩
    have eqv : x1_.toInt = x2_.toInt := ip.1
    refine r_pop hC dL_law_387 rfl ?_
    refine r_goto hC (tgt := 1253) dL_law_388 (by decide) ?_
    refine r_sub [0, 1, 2, 3, 4] rfl ?_
    refine r_widen hC (k2 := cn + 18) (n2 := sn + 231) (Nat.le_add_right _ _) (Nat.le_add_right _ _) ?_
    exact kk K len I2 J R ⟨hs2, la, ⟨h, s, lk, ls, lh, lrn, lcn⟩, lbv⟩
set_option maxHeartbeats 4000000 in
set_option maxRecDepth 100000 in
theorem law_7 {g : GG} {X : XT} {b L : Nat} {xs : Nat → Int32} (hX : LX g X b L xs) {x m o tp bt te tk nr pr rd mt cn sn : Nat} {i : Int32} {K len : Nat → Nat} {I : Nat → Nat → Int32} {J : Nat → Nat → Int64} {R : Nat → Nat → Option Nat} (hI : LI x m o tp bt te tk nr pr rd mt K len I R) (hi : 0 ≤ i.toInt) (hiL : i.toInt + 6 ≤ L) (hcn : cn + 18 ≤ 601024) (hsn : sn + 231 ≤ 7293034) (kk : ∀ K' len' I' J' R', LI x m o tp bt te tk nr pr rd mt K' len' I' R' → P g X 7 1253 [(0, .ref b), (1, .ref x), (2, .ref m), (3, .ref o), (4, .int i)] [] (cn + 18) (sn + 231) (K', len', I', J', R')) : P g X 7 391 [(0, .ref b), (1, .ref x), (2, .ref m), (3, .ref o), (4, .int i)] [] cn sn (K, len, I, J, R) := by
  obtain ⟨hC, hcs, hl, hXs, hb, hbA, hL⟩ := hX
  obtain ⟨hs, la, ⟨h, s, lk, ls, lh, lr, lc⟩, lb, lv⟩ := id hI
  obtain ⟨hu, DA, rwd, scd, lcm⟩ := id lc
  obtain ⟨sd1, sd2, sd3, sd4, sd5, sd7, sd8, sd9⟩ := id scd
  obtain ⟨kx, km, ⟨ko, no⟩, ⟨htp, ktp⟩, ⟨hbb, kbt, nbt⟩, ⟨hte, kte⟩, ⟨htk, ktk⟩, hbt, ⟨hnr, knr, lnr⟩, ⟨hpr, kpr, lpr⟩, ⟨hrd, krd⟩, ⟨hmt, kmt, nmt⟩⟩ := id la
  obtain ⟨⟨hh, kh⟩, ⟨hs2, ks⟩, ⟨hlk2, klk⟩, ⟨hls, kls⟩, nhs, nls⟩ := id lh
  obtain ⟨lv1, lv2, lv3, lv4⟩ := id lv
  obtain ⟨lw, hlw, klw, llw⟩ := hs.row kx 4 41 60 (by decide) (by decide)
  obtain ⟨kn, hkn, kkn, lkn⟩ := hs.row kx 6 43 6 (by decide) (by decide)
  obtain ⟨tl, htl, ktl, ltl⟩ := hs.row kx 7 41 60 (by decide) (by decide)
  obtain ⟨lrw, hlrw, klrw, llrw⟩ := hs.row km 15 85 60 (by decide) (by decide)
  have nlt : lw ≠ tl := hu.ne hlw htl (by rw [klw]; decide) (Or.inr (by decide))
  refine r_aload_n hC dL_law_391 1 rfl ?_
  refine r_aload_n hC dL_law_392 0 rfl ?_
  refine r_iload hC dL_law_393 4 rfl ?_
  refine r_iconst hC (v := (1)) dL_law_395 (by decide) (by decide) (fun x1_ e1 t1 => ?_)
  refine r_iadd hC dL_law_396 (fun x2_ e2 => ?_)
  try have t2 : x2_.toInt = i.toInt + x1_.toInt := by rw [e2]; exact ti_add (by omega) (by omega)
  refine r_sld hC hXs hb hbA (by omega) (by omega) dL_law_397 (fun x3_ e3 => ?_)
  refine r_aload_n hC dL_law_398 0 rfl ?_
  refine r_iload hC dL_law_399 4 rfl ?_
  refine r_iconst hC (v := (2)) dL_law_401 (by decide) (by decide) (fun x4_ e4 t4 => ?_)
  refine r_iadd hC dL_law_402 (fun x5_ e5 => ?_)
  try have t5 : x5_.toInt = i.toInt + x4_.toInt := by rw [e5]; exact ti_add (by omega) (by omega)
  refine r_sld hC hXs hb hbA (by omega) (by omega) dL_law_403 (fun x6_ e6 => ?_)
  refine r_aload_n hC dL_law_404 0 rfl ?_
  refine r_iload hC dL_law_405 4 rfl ?_
  refine r_iconst hC (v := (3)) dL_law_407 (by decide) (by decide) (fun x7_ e7 t7 => ?_)
  refine r_iadd hC dL_law_408 (fun x8_ e8 => ?_)
  try have t8 : x8_.toInt = i.toInt + x7_.toInt := by rw [e8]; exact ti_add (by omega) (by omega)
  refine r_sld hC hXs hb hbA (by omega) (by omega) dL_law_409 (fun x9_ e9 => ?_)
  refine r_aload_n hC dL_law_410 0 rfl ?_
  refine r_iload hC dL_law_411 4 rfl ?_
  refine r_iconst hC (v := (4)) dL_law_413 (by decide) (by decide) (fun x10_ e10 t10 => ?_)
  refine r_iadd hC dL_law_414 (fun x11_ e11 => ?_)
  try have t11 : x11_.toInt = i.toInt + x10_.toInt := by rw [e11]; exact ti_add (by omega) (by omega)
  refine r_sld hC hXs hb hbA (by omega) (by omega) dL_law_415 (fun x12_ e12 => ?_)
  refine r_callV hC (As := [.int x3_, .int x6_, .int x9_, .int x12_]) (rest := []) (ci := 8) (c_X8_peg g (xL X) K len I J R hs x kx x3_ x6_ x9_ x12_) mT_3_147 mT_1_1 mT_3_144 mT_3_145 mT_3_146 okX8_peg ⟨by decide, by decide⟩ rfl (by show kO (K x) = _; rw [kx]; rfl) rfl rfl (Nat.le_of_ble_eq_true rfl) ⟨by show cn + 0 ≤ 601024; omega, by show sn + 0 ≤ 7293034; omega⟩ dL_law_416 (aI1 (F := fun st M => P g X 7 419 [(0, .ref b), (1, .ref x), (2, .ref m), (3, .ref o), (4, .int i)] st _ _ M) (M := (K, len, I, J, R)) fun x13_ I13 h13 => ?_)
  obtain ⟨hs13, hf13, k13_0⟩ := h13
  show P g X 7 419 [(0, .ref b), (1, .ref x), (2, .ref m), (3, .ref o), (4, .int i)] [.int x13_] cn sn (K, len, I13, J, R)
  refine r_pop hC dL_law_419 rfl ?_
  refine r_aload_n hC dL_law_420 2 rfl ?_
  refine r_aload_n hC dL_law_421 0 rfl ?_
  refine r_iload hC dL_law_422 4 rfl ?_
  refine r_iconst hC (v := (1)) dL_law_424 (by decide) (by decide) (fun x14_ e14 t14 => ?_)
  refine r_iadd hC dL_law_425 (fun x15_ e15 => ?_)
  try have t15 : x15_.toInt = i.toInt + x14_.toInt := by rw [e15]; exact ti_add (by omega) (by omega)
  refine r_sld hC hXs hb hbA (by omega) (by omega) dL_law_426 (fun x16_ e16 => ?_)
  obtain rfl : x3_ = x16_ := sld_eq e3 e16 (by omega)
  refine r_aload_n hC dL_law_427 0 rfl ?_
  refine r_iload hC dL_law_428 4 rfl ?_
  refine r_iconst hC (v := (2)) dL_law_430 (by decide) (by decide) (fun x17_ e17 t17 => ?_)
  refine r_iadd hC dL_law_431 (fun x18_ e18 => ?_)
  try have t18 : x18_.toInt = i.toInt + x17_.toInt := by rw [e18]; exact ti_add (by omega) (by omega)
  refine r_sld hC hXs hb hbA (by omega) (by omega) dL_law_432 (fun x19_ e19 => ?_)
  obtain rfl : x6_ = x19_ := sld_eq e6 e19 (by omega)
  refine r_aload_n hC dL_law_433 0 rfl ?_
  refine r_iload hC dL_law_434 4 rfl ?_
  refine r_iconst hC (v := (3)) dL_law_436 (by decide) (by decide) (fun x20_ e20 t20 => ?_)
  refine r_iadd hC dL_law_437 (fun x21_ e21 => ?_)
  try have t21 : x21_.toInt = i.toInt + x20_.toInt := by rw [e21]; exact ti_add (by omega) (by omega)
  refine r_sld hC hXs hb hbA (by omega) (by omega) dL_law_438 (fun x22_ e22 => ?_)
  obtain rfl : x9_ = x22_ := sld_eq e9 e22 (by omega)
  refine r_aload_n hC dL_law_439 0 rfl ?_
  refine r_iload hC dL_law_440 4 rfl ?_
  refine r_iconst hC (v := (4)) dL_law_442 (by decide) (by decide) (fun x23_ e23 t23 => ?_)
  refine r_iadd hC dL_law_443 (fun x24_ e24 => ?_)
  try have t24 : x24_.toInt = i.toInt + x23_.toInt := by rw [e24]; exact ti_add (by omega) (by omega)
  refine r_sld hC hXs hb hbA (by omega) (by omega) dL_law_444 (fun x25_ e25 => ?_)
  obtain rfl : x12_ = x25_ := sld_eq e12 e25 (by omega)
  refine r_callV hC (As := [.int x3_, .int x6_, .int x9_, .int x12_]) (rest := []) (ci := 10) (c_X10_peg g (xL X) K len I13 J R hs13 m km x3_ x6_ x9_ x12_) mT_6_115 mT_1_10 mT_6_112 mT_6_113 mT_6_114 okX10_peg ⟨by decide, by decide⟩ rfl (by show kO (K m) = _; rw [km]; rfl) rfl rfl (Nat.le_of_ble_eq_true rfl) ⟨by show cn + 0 ≤ 601024; omega, by show sn + 0 ≤ 7293034; omega⟩ dL_law_445 (aI1 (F := fun st M => P g X 7 448 [(0, .ref b), (1, .ref x), (2, .ref m), (3, .ref o), (4, .int i)] st _ _ M) (M := (K, len, I13, J, R)) fun x26_ I26 h26 => ?_)
  obtain ⟨hs26, hf26, k26_0⟩ := h26
  show P g X 7 448 [(0, .ref b), (1, .ref x), (2, .ref m), (3, .ref o), (4, .int i)] [.int x26_] cn sn (K, len, I26, J, R)
  refine r_pop hC dL_law_448 rfl ?_
  refine r_goto hC (tgt := 1253) dL_law_449 (by decide) ?_
  refine r_sub [0, 1, 2, 3, 4] rfl ?_
  refine r_widen hC (k2 := cn + 18) (n2 := sn + 231) (by omega) (by omega) ?_
  exact kk K len I26 J R (hI.ref hs26 hf13 hf26 rfl rfl rfl rfl rfl rfl rfl k13_0 k26_0)

