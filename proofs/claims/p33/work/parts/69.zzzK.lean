def Fo (f : Nat → Int) (v : Int) : Nat → Int
  | 0 => -2
  | k + 1 => if Fo f v k ≠ -2 then Fo f v k else if f k = v then (k : Int) else -2
section ANS2
variable {D : DD} {s n k m : Nat} {i v : Int} {f : Nat → Int}
theorem Fo_n (h : Fo f v k = -2) (h1 : f k ≠ v) : Fo f v (k + 1) = -2 := by simp only [Fo]; rw [if_neg (by omega), if_neg h1]
theorem Fo_t (h : Fo f v k = -2) (h1 : f k = v) : Fo f v (k + 1) = k := by simp only [Fo]; rw [if_neg (by omega), if_pos h1]
theorem Fo_k (h : Fo f v k ≠ -2) : ∀ m, Fo f v (k + m) = Fo f v k
  | 0 => rfl
  | m + 1 => by
    have h1 := Fo_k h m
    show Fo f v (k + m + 1) = _
    simp only [Fo]; rw [if_pos (by rw [h1]; exact h), h1]
theorem Fo_hit (h : Fo f v k = -2) (h1 : f k = v) (hk : k < n) : Fo f v n = k := by
  have h2 := Fo_t h h1
  have h3 := Fo_k (k := k + 1) (by omega : Fo f v (k + 1) ≠ -2) (n - (k + 1))
  rw [show k + 1 + (n - (k + 1)) = n by omega] at h3
  rw [h3, h2]
end ANS2
set_option maxHeartbeats 4000000 in
set_option maxRecDepth 100000 in
theorem f_X0_togetherAhead (g : GG) (l : Launch) (K len : Nat → Nat) (I : Nat → Nat → Int32) (J : Nat → Nat → Int64) (R : Nat → Nat → Option Nat) (hs : Sf K len I R) (a0 : Nat) (ka0 : K a0 = 1) (x1 : Int32) (D : DD) (s : Nat) (co : CO D s (LP1 D) 1 a0 I R) (p0 : x1.toInt ≤ 60) : Ct g l yX0_togetherAhead cX0_togetherAhead 2 (Option.some Jvm.ClassFile.FieldType.int) rmX0_togetherAhead [.ref a0, .int x1] (K, len, I, J, R) (pI0 (K, len, I, J, R) (fun r => (r.toInt = Tg D s (Ad D s (LP1 D) 1) (x1.toInt - 1)))) := by
  refine Ct_intro (by decide +kernel) (Nat.le_of_ble_eq_true rfl) (fun X hC hL hKK hNm hr hlk hQ => ?_)
  subst hL
  have hC : Cx g X cX0_togetherAhead "HillTap$Course" 2 rmX0_togetherAhead := hC
  show P g X 2 0 [(0, .ref a0), (1, .int x1)] [] 0 0 (K, len, I, J, R)
  have hF : Fr K [] I I := Fr.refl
  have b_x1 := ti_rng x1
  refine r_iload_n hC dX0_togetherAhead_0 1 rfl ?_
  refine r_if_le hC (tgt := 15) dX0_togetherAhead_1 (by decide) (fun c1 => ?_) (fun c1 => ?_)
  · refine r_iconst hC (v := (0)) dX0_togetherAhead_15 (by decide) (by decide) (fun x2_ e2 t2 => ?_)
    exact r_iret hC hQ hlk hr rfl (by decide) (by decide) dX0_togetherAhead_16 ⟨_, rfl, rfl, (by first | (rw [Tg_n (by omega)]; omega) | (rw [show x1.toInt - 1 = NOtai.toInt by omega]; exact NOlq))⟩
  · refine r_aload_n hC dX0_togetherAhead_4 0 rfl ?_
    obtain ⟨a3_, hb3, hk3, hn3⟩ := hs.row ka0 3 53 60 (by decide) (by decide)
    refine r_getr hC 3 (ci := 0) rfl u0_in (by decide) mT_2_32 dX0_togetherAhead_5 ka0 rfl rfl hb3 ?_
    refine r_iload_n hC dX0_togetherAhead_8 1 rfl ?_
    refine r_iconst hC (v := (1)) dX0_togetherAhead_9 (by decide) (by decide) (fun x4_ e4 t4 => ?_)
    refine r_isub hC dX0_togetherAhead_10 (fun x5_ e5 => ?_)
    try have t5 : x5_.toInt = x1.toInt - x4_.toInt := by rw [e5]; exact ti_sub (by omega) (by omega)
    refine x_iaload hC hk3 hn3 (by decide) rfl rfl dX0_togetherAhead_11 (by omega) (by omega) (fun x6_ e6 => ?_)
    have q6 : x6_.toInt = Tg D s (Ad D s (LP1 D) 1) x5_.toInt := by rw [Tg_p (by omega), e6, clx (i := x5_) rfl (by omega)]; exact co.tog hs ka0 hb3 (by omega)
    refine r_goto hC (tgt := 16) dX0_togetherAhead_12 (by decide) ?_
    exact r_iret hC hQ hlk hr rfl (by decide) (by decide) dX0_togetherAhead_16 ⟨_, rfl, rfl, (by first | (rw [Tg_n (by omega)]; omega) | (rw [show x1.toInt - 1 = x5_.toInt by omega]; exact q6))⟩
